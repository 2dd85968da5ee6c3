/** Promises 49 to 57: maps, cores, embeddings and schedules. */
public final class MapsTest {
  private static final Check check = new Check("MapsTest");

  public static void main(String[] args) {
    type();
    keeps();
    adjoint();
    fixed();
    core();
    alwaysFixed();
    embeds();
    schedule();
    check.end();
  }

  private static void map(Zetaposet z, int... values) {
    z.wipe();
    for (int value : values) {
      z.type(value);
    }
  }

  private static void type() {
    Zetaposet z = new Zetaposet();
    check.is("50: none", z.wipe(), 0);
    check.is("49: first", z.type(0), 1);
    check.is("49: greatest value", z.type(11), 2);
    check.fails("49: 12", Check.ARGUMENT, () -> z.type(12));
    check.fails("49: negative", Check.ARGUMENT, () -> z.type(-1));
    for (int i = 3; i <= 12; i++) {
      check.is("49: one more", z.type(5), i);
    }
    check.fails("49: there are 12", Check.STATE, () -> z.type(5));
    check.fails("49: the range first", Check.ARGUMENT, () -> z.type(12));
    check.is("50: all", z.wipe(), 12);
    check.is("50: none then", z.wipe(), 0);
    check.is("49: anew", z.type(3), 1);
  }

  private static void keeps() {
    Zetaposet z = new Zetaposet();
    Orders.chain(z, 3);
    z.subsets(2);
    map(z, 0, 0, 3);
    check.isTrue("51: kept", z.keeps(0, 1));
    map(z, 0, 1, 2);
    check.isFalse("51: not kept", z.keeps(0, 1));
    check.isTrue("51: into itself", z.keeps(0, 0));
    map(z, 2, 1, 0);
    check.isFalse("51: turned over", z.keeps(0, 0));
    map(z, 0, 0, 2, 2);
    check.isTrue("51: the other way", z.keeps(1, 0));
    check.fails("51: too many", Check.ARGUMENT, () -> z.keeps(0, 1));
    map(z, 0, 0);
    check.fails("51: too few", Check.ARGUMENT, () -> z.keeps(0, 1));
    map(z, 0, 0, 4);
    check.fails("51: no value", Check.ARGUMENT, () -> z.keeps(0, 1));
    map(z, 0, 0, 3);
    check.fails("51: no value there", Check.ARGUMENT, () -> z.keeps(0, 0));
    check.fails("51: the first", Check.INDEX, () -> z.keeps(2, 0));
    check.fails("51: the second", Check.INDEX, () -> z.keeps(0, -1));
    map(z);
    check.fails("51: none at all", Check.ARGUMENT, () -> z.keeps(0, 0));
  }

  private static void adjoint() {
    Zetaposet z = new Zetaposet();
    Orders.chain(z, 3);
    Orders.chain(z, 5);
    map(z, 0, 2, 2);
    int[] due = {0, 0, 2, 2, 2};
    for (int y = 0; y < 5; y++) {
      check.is("52: of " + y, z.adjoint(0, 1, y), due[y]);
    }
    map(z, 1, 2, 3);
    check.fails("52: none for 0", Check.NONE, () -> z.adjoint(0, 1, 0));
    check.fails("52: so none for any", Check.NONE, () -> z.adjoint(0, 1, 4));
    map(z, 2, 1, 0);
    check.fails("52: not kept", Check.ARGUMENT, () -> z.adjoint(0, 1, 0));
    check.fails("52: the element first", Check.INDEX, () -> z.adjoint(0, 1, 5));
    check.fails("52: an element of the other one", Check.INDEX, () -> z.adjoint(1, 0, 3));
    check.fails("52: too few", Check.ARGUMENT, () -> z.adjoint(1, 0, 2));
    map(z, 0, 0, 5);
    check.fails("52: no value", Check.ARGUMENT, () -> z.adjoint(0, 1, 4));
    map(z, 0, 2, 2);
    map(z, 0, 2);
    check.fails("52: what was typed before is gone", Check.ARGUMENT, () -> z.adjoint(0, 1, 4));
    check.fails("52: the first", Check.INDEX, () -> z.adjoint(2, 0, 0));
    check.fails("52: the second", Check.INDEX, () -> z.adjoint(0, 2, 0));
    check.fails("52: negative", Check.INDEX, () -> z.adjoint(0, 1, -1));
    z.order(2);
    z.order(1);
    map(z, 0, 0);
    check.fails("52: two under it, no greatest one", Check.NONE, () -> z.adjoint(2, 3, 0));
    map(z, 0);
    check.is("52: one", z.adjoint(3, 3, 0), 0);
  }

  private static void fixed() {
    Zetaposet z = new Zetaposet();
    z.order(6);
    map(z, 1, 2, 3, 4, 2, 5);
    check.is("53: the ring 2 3 4", z.fixed(0, 0), 2);
    check.is("53: from within", z.fixed(0, 4), 2);
    check.is("53: fixed", z.fixed(0, 5), 5);
    map(z, 1, 2, 3, 4, 5, 0);
    check.is("53: all round", z.fixed(0, 3), 0);
    map(z, 5, 0, 1, 2, 3, 5);
    check.is("53: as long a way as can be", z.fixed(0, 4), 5);
    check.fails("53: element", Check.INDEX, () -> z.fixed(0, 6));
    check.fails("53: negative", Check.INDEX, () -> z.fixed(0, -1));
    check.fails("53: order", Check.INDEX, () -> z.fixed(1, 0));
    map(z, 5, 0, 1, 2, 3, 6);
    check.fails("53: no value", Check.ARGUMENT, () -> z.fixed(0, 0));
    map(z, 5, 0, 1, 2, 3);
    check.fails("53: too few", Check.ARGUMENT, () -> z.fixed(0, 0));
    check.fails("53: the element first", Check.INDEX, () -> z.fixed(0, 6));
    map(z, 5, 0, 1, 2, 3, 4, 5);
    check.fails("53: too many", Check.ARGUMENT, () -> z.fixed(0, 0));
  }

  private static void core() {
    Zetaposet z = new Zetaposet();
    Orders.chain(z, 12);
    check.is("54: chain", z.core(0), 1 << 11);
    z.order(5);
    check.is("54: antichain", z.core(1), 31);
    Orders.of(z, 4, "02 03 12 13");
    check.is("54: a circle", z.core(2), 15);
    z.subsets(3);
    check.is("54: subsets", z.core(3), 128);
    // 4 goes first, as it covers 0 alone; the circle stays.
    Orders.of(z, 6, "02 03 12 13 04 45");
    check.is("54: a tail", z.core(4), 15);
    // 0 is covered by 2 alone and goes, then 1; then 2 covers 3 alone, and comes before it.
    Orders.of(z, 4, "02 12 32");
    check.is("54: the lowest first, again and again", z.core(5), 8);
    z.order(1);
    check.is("54: one", z.core(6), 1);
    // 0 covers two, and 1 alone covers it; all else follows, down to 5.
    Orders.of(z, 6, "20 30 01 24 35 43");
    check.is("54: covered by one only", z.core(7), 1 << 5);
    Orders.of(z, 8, "04 05 14 15 42 43 52 53 60 61 70 71");
    check.is("54: covers and is covered by two", z.core(8), 255);
    check.fails("54: order", Check.INDEX, () -> z.core(9));
    check.fails("54: negative", Check.INDEX, () -> z.core(-1));
  }

  private static void alwaysFixed() {
    Zetaposet z = new Zetaposet();
    Orders.pentagon(z);
    check.isTrue("55: pentagon", z.alwaysFixed(0));
    z.order(2);
    check.isFalse("55: two", z.alwaysFixed(1));
    z.order(1);
    check.isTrue("55: one", z.alwaysFixed(2));
    Orders.of(z, 4, "02 03 12 13");
    check.isFalse("55: a circle", z.alwaysFixed(3));
    Orders.of(z, 5, "02 12 13 43");
    check.isTrue("55: a fence", z.alwaysFixed(4));
    Orders.of(z, 6, "03 04 13 15 24 25");
    check.isFalse("55: a crown", z.alwaysFixed(5));
    Orders.of(z, 6, "02 03 12 13 24 34 25 35");
    check.isFalse("55: a sphere", z.alwaysFixed(6));
    z.order(7);
    check.fails("55: seven", Check.UNSUPPORTED, () -> z.alwaysFixed(7));
    map(z, 1, 0);
    check.isTrue("55: whatever is typed", z.alwaysFixed(0));
    check.is("55: which stays", z.wipe(), 2);
    check.fails("55: order", Check.INDEX, () -> z.alwaysFixed(8));
    check.fails("55: negative", Check.INDEX, () -> z.alwaysFixed(-1));
  }

  private static void embeds() {
    Zetaposet z = new Zetaposet();
    z.subsets(3);
    Orders.chain(z, 4);
    Orders.chain(z, 5);
    z.order(3);
    z.order(4);
    Orders.of(z, 4, "01 23");
    Orders.of(z, 4, "02 12 03 13");
    check.isTrue("56: the longest chain", z.embeds(1, 0));
    check.isFalse("56: a longer one", z.embeds(2, 0));
    check.isTrue("56: three beside", z.embeds(3, 0));
    check.isFalse("56: four beside", z.embeds(4, 0));
    check.isTrue("56: two and two", z.embeds(5, 0));
    check.isFalse("56: two below two", z.embeds(6, 0));
    check.isTrue("56: in itself", z.embeds(0, 0));
    check.isFalse("56: in a lesser one", z.embeds(0, 1));
    check.isFalse("56: not related, so not in a chain", z.embeds(3, 2));
    z.order(12);
    check.isTrue("56: many that are alike", z.embeds(4, 7));
    z.relate(7, 0, 1);
    z.relate(7, 2, 3);
    z.order(11);
    check.isFalse("56: one too few, many ways to see it", z.embeds(8, 7));
    check.fails("56: the first", Check.INDEX, () -> z.embeds(9, 0));
    check.fails("56: the second", Check.INDEX, () -> z.embeds(0, -1));
  }

  private static void schedule() {
    Zetaposet z = new Zetaposet();
    z.order(12);
    check.is("57: antichain", z.schedule(0, 5), 3);
    check.is("57: one machine", z.schedule(0, 1), 12);
    check.is("57: as many as elements", z.schedule(0, 12), 1);
    Orders.chain(z, 12);
    check.is("57: chain", z.schedule(1, 12), 12);
    z.subsets(3);
    check.is("57: subsets, two", z.schedule(2, 2), 5);
    check.is("57: subsets, three", z.schedule(2, 3), 4);
    // The chain 5 6 7 must be begun at once, though it comes last by number.
    Orders.of(z, 8, "56 67");
    check.is("57: the chain goes first", z.schedule(3, 3), 3);
    Orders.of(z, 6, "34 45");
    check.is("57: two at a time", z.schedule(4, 2), 3);
    check.is("57: as many as are ready", z.schedule(4, 4), 3);
    z.order(1);
    check.is("57: one", z.schedule(5, 7), 1);
    check.fails("57: none", Check.ARGUMENT, () -> z.schedule(0, 0));
    check.fails("57: 13", Check.ARGUMENT, () -> z.schedule(0, 13));
    check.fails("57: order", Check.INDEX, () -> z.schedule(6, 1));
    check.fails("57: the order first", Check.INDEX, () -> z.schedule(-1, 0));
  }
}
