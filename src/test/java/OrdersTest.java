/** Promises 1 to 16: orders given by pairs or made from others, and what they are like. */
public final class OrdersTest {
  private static final Check check = new Check("OrdersTest");

  public static void main(String[] args) {
    newObject();
    order();
    relate();
    divisors();
    subsets();
    dual();
    sum();
    product();
    intervals();
    clear();
    queries();
    covers();
    rank();
    isRanked();
    areAlike();
    check.end();
  }

  private static void newObject() {
    Zetaposet z = new Zetaposet();
    check.fails("1: size(0)", Check.INDEX, () -> z.size(0));
    check.is("1: clear", z.clear(), 0);
    check.is("1: concepts", z.concepts(), 1);
    check.is("1: conceptAt", z.conceptAt(0, false), 1);
    check.is("1: conceptAt things", z.conceptAt(0, true), 0);
    check.is("1: implications", z.implications(), 1);
    check.fails("1: cross", Check.INDEX, () -> z.cross(0, 0, true));
    check.fails("1: question", Check.NONE, () -> z.question(true));
    check.is("1: wipe", z.wipe(), 0);
    check.is("1: prefer", z.prefer(5, 0, 0), 0);
    check.is("1: table", z.table(2, 2), 0);
    check.isTrue("1: isSound", new Zetaposet().isSound());
    Zetaposet other = new Zetaposet();
    z.order(3);
    check.is("1: each object is its own", other.order(2), 0);
  }

  private static void order() {
    Zetaposet z = new Zetaposet();
    check.is("2: first", z.order(1), 0);
    check.is("2: next", z.order(12), 1);
    check.is("2: size", z.size(1), 12);
    check.is("2: not related", z.above(1, 0), 0);
    check.is("2: one", z.size(0), 1);
    check.fails("2: none", Check.ARGUMENT, () -> z.order(0));
    check.fails("2: negative", Check.ARGUMENT, () -> z.order(Integer.MIN_VALUE));
    check.fails("2: too many", Check.ARGUMENT, () -> z.order(13));
    for (int i = 2; i < 10; i++) {
      check.is("2: number", z.order(2), i);
    }
    check.fails("2: 10 orders", Check.STATE, () -> z.order(2));
    check.fails("2: the range first", Check.ARGUMENT, () -> z.order(13));
    check.is("2: nothing changed", z.clear(), 10);
    check.is("2: anew", z.order(3), 0);
    check.is("2: what was there is gone", z.above(0, 0), 0);
  }

  private static void relate() {
    Zetaposet z = new Zetaposet();
    z.order(5);
    check.is("3: one pair", z.relate(0, 3, 1), 1);
    check.is("3: again", z.relate(0, 3, 1), 1);
    check.is("3: another", z.relate(0, 0, 4), 2);
    check.is("3: with all that follows", z.relate(0, 1, 0), 6);
    check.is("3: above 3", z.above(0, 3), Orders.set(0, 1, 4));
    check.is("3: what follows is there", z.relate(0, 3, 4), 6);
    check.fails("3: the same", Check.ARGUMENT, () -> z.relate(0, 2, 2));
    check.fails("3: below already", Check.ARGUMENT, () -> z.relate(0, 4, 3));
    check.fails("3: low", Check.INDEX, () -> z.relate(0, 5, 1));
    check.fails("3: low negative", Check.INDEX, () -> z.relate(0, -1, 1));
    check.fails("3: high", Check.INDEX, () -> z.relate(0, 1, 5));
    check.fails("3: both the same, but none", Check.INDEX, () -> z.relate(0, 5, 5));
    check.fails("3: order", Check.INDEX, () -> z.relate(1, 0, 1));
    check.fails("3: order negative", Check.INDEX, () -> z.relate(-1, 0, 1));
    check.is("3: nothing changed", z.relate(0, 3, 2), 7);
    Orders.chain(z, 12);
    check.is("3: longest", z.relate(1, 0, 11), 66);
    int made = z.dual(0);
    check.is("3: a made one", z.relate(made, 4, 2), 8);
    check.is("3: its source is as it was", z.above(0, 2), 0);
  }

  private static void divisors() {
    Zetaposet z = new Zetaposet();
    check.is("4: number", z.divisors(12), 0);
    check.is("4: how many", z.size(0), 6);
    check.is("4: 2 divides", z.above(0, 1), Orders.set(3, 4, 5));
    check.is("4: 3 divides", z.above(0, 2), Orders.set(4, 5));
    check.is("4: 4 divides", z.above(0, 3), Orders.set(5));
    z.divisors(1);
    check.is("4: of 1", z.size(1), 1);
    z.divisors(99991);
    check.is("4: of a prime", z.above(2, 0), 2);
    z.divisors(60);
    check.is("4: just 12", z.size(3), 12);
    z.divisors(36);
    check.is("4: of a square", z.size(4), 9);
    check.is("4: 6 divides", z.above(4, 4), Orders.set(6, 7, 8));
    check.is("4: 2048 has 12", z.divisors(2048), 5);
    check.is("4: a chain", z.above(5, 0), 4094);
    check.fails("4: 4096 has 13", Check.ARGUMENT, () -> z.divisors(4096));
    check.fails("4: 83160 has 128", Check.ARGUMENT, () -> z.divisors(83160));
    check.fails("4: 120 has 16", Check.ARGUMENT, () -> z.divisors(120));
    check.fails("4: 0", Check.ARGUMENT, () -> z.divisors(0));
    check.fails("4: negative", Check.ARGUMENT, () -> z.divisors(-12));
    check.fails("4: too great", Check.ARGUMENT, () -> z.divisors(100000));
    check.fails("4: greatest of all", Check.ARGUMENT, () -> z.divisors(Integer.MAX_VALUE));
    check.is("4: the greatest square of a prime", z.divisors(97969), 6);
    check.is("4: 1, 313, 97969", z.size(6), 3);
    check.fails("4: 99999 is 9 by 41 by 271", Check.INDEX, () -> z.size(z.divisors(99999) + 1));
    check.is("4: so it has 12", z.size(7), 12);
    Orders.fill(z);
    check.fails("4: 10 orders", Check.STATE, () -> z.divisors(12));
    check.fails("4: the range first", Check.ARGUMENT, () -> z.divisors(4096));
  }

  private static void subsets() {
    Zetaposet z = new Zetaposet();
    check.is("5: number", z.subsets(3), 0);
    check.is("5: how many", z.size(0), 8);
    check.is("5: above 1", z.above(0, 1), Orders.set(3, 5, 7));
    check.is("5: above 6", z.above(0, 6), Orders.set(7));
    check.is("5: above none", z.above(0, 0), 254);
    z.subsets(0);
    check.is("5: of none", z.size(1), 1);
    z.subsets(2);
    check.is("5: of two", z.size(2), 4);
    check.fails("5: 4", Check.ARGUMENT, () -> z.subsets(4));
    check.fails("5: negative", Check.ARGUMENT, () -> z.subsets(-1));
    Orders.fill(z);
    check.fails("5: 10 orders", Check.STATE, () -> z.subsets(1));
    check.fails("5: the range first", Check.ARGUMENT, () -> z.subsets(32));
  }

  private static void dual() {
    Zetaposet z = new Zetaposet();
    Orders.of(z, 4, "01 02");
    check.is("6: number", z.dual(0), 1);
    check.is("6: size", z.size(1), 4);
    check.is("6: above 1", z.above(1, 1), 1);
    check.is("6: above 2", z.above(1, 2), 1);
    check.is("6: above 0", z.above(1, 0), 0);
    check.is("6: rank", z.rank(1, 0), 1);
    check.fails("6: order", Check.INDEX, () -> z.dual(2));
    check.fails("6: negative", Check.INDEX, () -> z.dual(-1));
    Orders.fill(z);
    check.fails("6: 10 orders", Check.STATE, () -> z.dual(0));
    check.fails("6: the order first", Check.INDEX, () -> z.dual(10));
  }

  private static void sum() {
    Zetaposet z = new Zetaposet();
    Orders.chain(z, 2);
    Orders.of(z, 3, "01");
    check.is("7: beside", z.sum(0, 1, false), 2);
    check.is("7: size", z.size(2), 5);
    check.is("7: above 0", z.above(2, 0), Orders.set(1));
    check.is("7: above 2", z.above(2, 2), Orders.set(3));
    check.is("7: above 4", z.above(2, 4), 0);
    z.sum(0, 1, true);
    check.is("7: all above 0", z.above(3, 0), Orders.set(1, 2, 3, 4));
    check.is("7: all above 1", z.above(3, 1), Orders.set(2, 3, 4));
    check.is("7: none above 3", z.above(3, 3), 0);
    z.sum(1, 0, true);
    check.is("7: the other way", z.above(4, 2), Orders.set(3, 4));
    z.sum(1, 1, false);
    check.is("7: with itself", z.above(5, 3), Orders.set(4));
    z.sum(5, 5, false);
    check.is("7: just 12", z.size(6), 12);
    check.fails("7: 13", Check.ARGUMENT, () -> z.sum(6, z.order(1), false));
    Orders.of(z, 2, "10");
    z.sum(8, 8, false);
    check.is("7: downwards in the first", z.above(9, 1), Orders.set(0));
    check.is("7: downwards in the second", z.above(9, 3), Orders.set(2));
    check.fails("7: the first", Check.INDEX, () -> z.sum(10, 0, false));
    check.fails("7: the second", Check.INDEX, () -> z.sum(0, -1, false));
    check.fails("7: 10 orders", Check.STATE, () -> z.sum(0, 0, false));
    check.fails("7: the size first", Check.ARGUMENT, () -> z.sum(6, 6, true));
    check.fails("7: the order first", Check.INDEX, () -> z.sum(6, 10, true));
  }

  private static void product() {
    Zetaposet z = new Zetaposet();
    Orders.chain(z, 2);
    Orders.of(z, 3, "01 02");
    check.is("8: number", z.product(0, 1), 2);
    check.is("8: size", z.size(2), 6);
    check.is("8: above (0,0)", z.above(2, 0), Orders.set(1, 2, 3, 4, 5));
    check.is("8: above (0,1)", z.above(2, 1), Orders.set(4));
    check.is("8: above (1,0)", z.above(2, 3), Orders.set(4, 5));
    z.product(1, 0);
    check.is("8: the other way, above (0,1)", z.above(3, 1), Orders.set(3, 5));
    z.product(0, 2);
    check.is("8: just 12", z.size(4), 12);
    check.fails("8: 16", Check.ARGUMENT, () -> z.product(4, 0));
    Orders.chain(z, 12);
    check.fails("8: 144", Check.ARGUMENT, () -> z.product(5, 5));
    Orders.of(z, 2, "10");
    z.product(6, 0);
    check.is("8: downwards, above (1,0)", z.above(7, 2), Orders.set(0, 1, 3));
    check.is("8: downwards, above (1,1)", z.above(7, 3), Orders.set(1));
    z.order(1);
    z.product(8, 5);
    check.is("8: by one", z.above(9, 1), 4092);
    check.fails("8: the first", Check.INDEX, () -> z.product(10, 0));
    check.fails("8: the second", Check.INDEX, () -> z.product(0, 10));
    check.fails("8: 10 orders", Check.STATE, () -> z.product(0, 0));
    check.fails("8: the size first", Check.ARGUMENT, () -> z.product(2, 2));
    check.fails("8: the order first", Check.INDEX, () -> z.product(-1, 2));
  }

  private static void intervals() {
    Zetaposet z = new Zetaposet();
    Orders.chain(z, 3);
    check.is("9: number", z.intervals(0), 1);
    check.is("9: 00 01 02 11 12 22", z.size(1), 6);
    check.is("9: 00 lies in", z.above(1, 0), Orders.set(1, 2));
    check.is("9: 11 lies in", z.above(1, 3), Orders.set(1, 2, 4));
    check.is("9: 02 lies in none", z.above(1, 2), 0);
    check.is("9: 22 lies in", z.above(1, 5), Orders.set(2, 4));
    Orders.of(z, 3, "20");
    z.intervals(2);
    check.is("9: 00 11 20 22", z.above(3, 0), Orders.set(2));
    check.is("9: 22 in 20", z.above(3, 3), Orders.set(2));
    check.is("9: 11 in none", z.above(3, 1), 0);
    z.order(12);
    z.intervals(4);
    check.is("9: just 12", z.size(5), 12);
    z.relate(4, 0, 1);
    check.fails("9: 13", Check.ARGUMENT, () -> z.intervals(4));
    check.fails("9: order", Check.INDEX, () -> z.intervals(6));
    Orders.fill(z);
    check.fails("9: 10 orders", Check.STATE, () -> z.intervals(0));
    check.fails("9: the size first", Check.ARGUMENT, () -> z.intervals(4));
    check.fails("9: the order first", Check.INDEX, () -> z.intervals(-1));
  }

  private static void clear() {
    Zetaposet z = new Zetaposet();
    z.order(3);
    z.subsets(2);
    check.is("10: two", z.clear(), 2);
    check.is("10: none", z.clear(), 0);
    check.fails("10: gone", Check.INDEX, () -> z.size(0));
    z.order(4);
    check.is("10: numbered from 0", z.size(0), 4);
    z.type(3);
    z.table(2, 3);
    z.prefer(1, 2, 7);
    z.clear();
    check.is("10: the map stays", z.wipe(), 1);
    check.is("10: the table stays", z.table(0, 1), 2);
    check.is("10: what is preferred stays", z.prefer(1, 2, 0), 7);
  }

  private static void queries() {
    Zetaposet z = new Zetaposet();
    Orders.of(z, 12, "0b ba");
    check.is("11: size", z.size(0), 12);
    check.fails("11: order", Check.INDEX, () -> z.size(1));
    check.fails("11: negative", Check.INDEX, () -> z.size(-1));
    check.fails("11: least", Check.INDEX, () -> z.size(Integer.MIN_VALUE));
    check.fails("11: greatest", Check.INDEX, () -> z.size(Integer.MAX_VALUE));
    check.is("12: above 0", z.above(0, 0), Orders.set(10, 11));
    check.is("12: above 10", z.above(0, 10), 0);
    check.fails("12: element", Check.INDEX, () -> z.above(0, 12));
    check.fails("12: negative", Check.INDEX, () -> z.above(0, -1));
    check.fails("12: order", Check.INDEX, () -> z.above(1, 0));
  }

  private static void covers() {
    Zetaposet z = new Zetaposet();
    Orders.of(z, 5, "01 12 02 03 34 24");
    check.is("13: covers 1, not 0", z.covers(0, 2), Orders.set(1));
    check.is("13: two", z.covers(0, 4), Orders.set(2, 3));
    check.is("13: none", z.covers(0, 0), 0);
    check.fails("13: element", Check.INDEX, () -> z.covers(0, 5));
    check.fails("13: negative", Check.INDEX, () -> z.covers(0, -1));
    check.fails("13: order", Check.INDEX, () -> z.covers(1, 0));
  }

  private static void rank() {
    Zetaposet z = new Zetaposet();
    Orders.pentagon(z);
    check.is("14: least", z.rank(0, 0), 0);
    check.is("14: by the longest", z.rank(0, 4), 3);
    check.is("14: beside", z.rank(0, 3), 1);
    Orders.chain(z, 12);
    check.is("14: long", z.rank(1, 11), 11);
    check.fails("14: element", Check.INDEX, () -> z.rank(0, 5));
    check.fails("14: negative", Check.INDEX, () -> z.rank(0, -1));
    check.fails("14: order", Check.INDEX, () -> z.rank(2, 0));
    z.relate(1, 3, 4);
    Orders.of(z, 4, "32 21 10");
    check.is("14: numbered downwards", z.rank(2, 0), 3);
  }

  private static void isRanked() {
    Zetaposet z = new Zetaposet();
    Orders.pentagon(z);
    check.isFalse("15: pentagon", z.isRanked(0));
    z.subsets(3);
    check.isTrue("15: subsets", z.isRanked(1));
    Orders.of(z, 4, "01 23");
    check.isTrue("15: two chains", z.isRanked(2));
    z.order(1);
    check.isTrue("15: one", z.isRanked(3));
    Orders.of(z, 4, "01 12 32");
    check.isFalse("15: a short way up", z.isRanked(4));
    Orders.of(z, 4, "12 20 30");
    check.isFalse("15: a short way up to the first", z.isRanked(5));
    Orders.of(z, 4, "32 21 01");
    check.isFalse("15: a short way up from the first", z.isRanked(6));
    check.fails("15: order", Check.INDEX, () -> z.isRanked(7));
    check.fails("15: negative", Check.INDEX, () -> z.isRanked(-1));
  }

  private static void areAlike() {
    Zetaposet z = new Zetaposet();
    Orders.of(z, 4, "01 12 13");
    Orders.of(z, 4, "32 20 21");
    Orders.of(z, 4, "02 12 23");
    Orders.of(z, 5, "01 12 13");
    check.isTrue("16: renamed", z.areAlike(0, 1));
    check.isTrue("16: with itself", z.areAlike(2, 2));
    check.isFalse("16: the dual", z.areAlike(0, 2));
    check.isFalse("16: one more", z.areAlike(0, 3));
    check.isFalse("16: one less", z.areAlike(3, 0));
    z.divisors(30);
    z.subsets(3);
    check.isTrue("16: divisors and subsets", z.areAlike(4, 5));
    Orders.of(z, 12, "06 07 17 18 28 26 39 3a 4a 4b 5b 59");
    Orders.of(z, 12, "06 07 17 18 28 29 39 3a 4a 4b 5b 56");
    check.isFalse("16: two rings of 6, one of 12", z.areAlike(6, 7));
    z.dual(7);
    check.isTrue("16: the ring turned over", z.areAlike(7, 8));
    z.order(12);
    check.isFalse("16: an antichain", z.areAlike(9, 8));
    check.isTrue("16: an antichain with itself", z.areAlike(9, 9));
    check.fails("16: the first", Check.INDEX, () -> z.areAlike(10, 0));
    check.fails("16: the second", Check.INDEX, () -> z.areAlike(0, -1));
  }
}
