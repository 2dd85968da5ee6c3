/** Promises 35 to 48: lattices, ideals, cuts and parts. */
public final class LatticesTest {
  private static final Check check = new Check("LatticesTest");

  public static void main(String[] args) {
    isLattice();
    join();
    meet();
    isOfKind();
    joined();
    congruences();
    doubled();
    ideals();
    cuts();
    part();
    idealCount();
    toggle();
    turn();
    orbit();
    check.end();
  }

  private static void isLattice() {
    Zetaposet z = new Zetaposet();
    z.divisors(60);
    check.isTrue("35: divisors", z.isLattice(0));
    Orders.of(z, 6, "01 02 13 14 23 24 35 45");
    check.isFalse("35: two least above two", z.isLattice(1));
    z.order(1);
    check.isTrue("35: one", z.isLattice(2));
    z.order(2);
    check.isFalse("35: two", z.isLattice(3));
    Orders.of(z, 3, "01 02");
    check.isFalse("35: no join", z.isLattice(4));
    Orders.of(z, 3, "10 20");
    check.isFalse("35: no meet", z.isLattice(5));
    Orders.pentagon(z);
    check.isTrue("35: pentagon", z.isLattice(6));
    check.fails("35: order", Check.INDEX, () -> z.isLattice(7));
    check.fails("35: negative", Check.INDEX, () -> z.isLattice(-1));
  }

  private static void join() {
    Zetaposet z = new Zetaposet();
    z.divisors(60);
    check.is("36: of 4 and 6 is 12", z.join(0, 3, 5), 7);
    check.is("36: of 2 and 10", z.join(0, 1, 6), 6);
    check.is("36: the same", z.join(0, 4, 4), 4);
    Orders.of(z, 6, "01 02 13 14 23 24 35 45");
    check.fails("36: two least ones", Check.NONE, () -> z.join(1, 1, 2));
    check.is("36: yet the others", z.join(1, 3, 4), 5);
    z.order(2);
    check.fails("36: nothing above", Check.NONE, () -> z.join(2, 0, 1));
    check.is("36: alone", z.join(2, 1, 1), 1);
    check.fails("36: order", Check.INDEX, () -> z.join(3, 0, 0));
    check.fails("36: one", Check.INDEX, () -> z.join(2, 2, 0));
    check.fails("36: other", Check.INDEX, () -> z.join(2, 0, -1));
  }

  private static void meet() {
    Zetaposet z = new Zetaposet();
    z.divisors(60);
    check.is("37: of 12 and 20 is 4", z.meet(0, 7, 9), 3);
    check.is("37: of 2 and 10", z.meet(0, 6, 1), 1);
    check.is("37: the same", z.meet(0, 4, 4), 4);
    Orders.of(z, 6, "01 02 13 14 23 24 35 45");
    check.fails("37: two greatest ones", Check.NONE, () -> z.meet(1, 3, 4));
    check.is("37: yet the others", z.meet(1, 1, 2), 0);
    z.order(2);
    check.fails("37: nothing below", Check.NONE, () -> z.meet(2, 0, 1));
    check.is("37: alone", z.meet(2, 1, 1), 1);
    check.fails("37: order", Check.INDEX, () -> z.meet(3, 0, 0));
    check.fails("37: one", Check.INDEX, () -> z.meet(2, -1, 0));
    check.fails("37: other", Check.INDEX, () -> z.meet(2, 0, 2));
  }

  private static void kinds(Zetaposet z, int order, String name, String due) {
    StringBuilder got = new StringBuilder();
    for (char kind : new char[] {'d', 'm', 'g'}) {
      got.append(z.isOfKind(order, kind) ? kind : '-');
    }
    check.is("38: " + name, got.toString(), due);
  }

  private static void isOfKind() {
    Zetaposet z = new Zetaposet();
    z.subsets(3);
    kinds(z, 0, "subsets", "dmg");
    Orders.diamond(z);
    kinds(z, 1, "diamond", "-mg");
    Orders.pentagon(z);
    kinds(z, 2, "pentagon", "---");
    Orders.chain(z, 3);
    kinds(z, 3, "chain", "dm-");
    z.order(1);
    kinds(z, 4, "one", "dmg");
    Orders.of(z, 8, "01 02 03 14 24 15 35 26 36 47 57 67");
    kinds(z, 5, "subsets by their sizes", "dmg");
    // Three points on a line and one beside it: any two lines meet in a point.
    Orders.of(z, 10, "01 02 03 04 15 25 35 16 46 27 47 38 48 59 69 79 89");
    kinds(z, 6, "three on a line", "-mg");
    // Four points, no three on a line: the lines of 1 2 and of 3 4 meet in none.
    Orders.of(z, 12, "01 02 03 04 15 25 16 36 17 47 28 38 29 49 3a 4a 5b 6b 7b 8b 9b ab");
    kinds(z, 7, "four points", "--g");
    // Ranked, and each a join of atoms, but 1 and 3 have their join too high.
    Orders.of(z, 8, "01 02 03 04 15 25 36 46 57 67");
    kinds(z, 8, "two lines apart", "---");
    z.order(2);
    check.fails("38: no lattice", Check.UNSUPPORTED, () -> z.isOfKind(9, 'd'));
    check.fails("38: kind", Check.ARGUMENT, () -> z.isOfKind(0, 'x'));
    check.fails("38: capital", Check.ARGUMENT, () -> z.isOfKind(0, 'D'));
    check.fails("38: the kind first", Check.ARGUMENT, () -> z.isOfKind(9, (char) 0));
    check.fails("38: order", Check.INDEX, () -> z.isOfKind(10, 'x'));
  }

  private static void joined() {
    Zetaposet z = new Zetaposet();
    z.divisors(12);
    // 1 2 3 4 6 12: 2, 3 and 4 cover just one.
    check.is("39: divisors", z.joined(0), Orders.set(1, 2, 3));
    Orders.chain(z, 4);
    check.is("39: chain", z.joined(1), 14);
    Orders.pentagon(z);
    check.is("39: pentagon", z.joined(2), Orders.set(1, 2, 3));
    z.order(1);
    check.is("39: one", z.joined(3), 0);
    z.order(3);
    check.fails("39: no lattice", Check.UNSUPPORTED, () -> z.joined(4));
    check.fails("39: order", Check.INDEX, () -> z.joined(5));
    check.fails("39: negative", Check.INDEX, () -> z.joined(-1));
  }

  private static void congruences() {
    Zetaposet z = new Zetaposet();
    Orders.chain(z, 12);
    check.is("40: chain", z.congruences(0), 2048);
    Orders.diamond(z);
    check.is("40: diamond", z.congruences(1), 2);
    Orders.pentagon(z);
    check.is("40: pentagon", z.congruences(2), 5);
    z.subsets(3);
    check.is("40: subsets", z.congruences(3), 8);
    z.order(1);
    check.is("40: one", z.congruences(4), 1);
    z.sum(1, 4, true);
    check.is("40: one put to the diamond", z.congruences(5), 4);
    z.dual(2);
    check.is("40: pentagon turned over", z.congruences(6), 5);
    z.sum(2, 6, true);
    check.is("40: two pentagons and a step", z.congruences(7), 50);
    // To make 0 and 9 alike makes 1 and 8 so, then all that is between, then 2 and 0, and so on.
    Orders.of(z, 10, "01 02 03 14 24 34 45 46 47 58 68 78 09 98");
    check.is("40: two diamonds and a way past both", z.congruences(8), 2);
    z.order(2);
    check.fails("40: no lattice", Check.UNSUPPORTED, () -> z.congruences(9));
    check.fails("40: order", Check.INDEX, () -> z.congruences(10));
    check.fails("40: negative", Check.INDEX, () -> z.congruences(-1));
  }

  private static void doubled() {
    Zetaposet z = new Zetaposet();
    // 0 below 1 and 2, both below 3.
    z.subsets(2);
    check.is("41: number", z.doubled(0, 1, 3), 1);
    // 0, 1, 1', 2, 3, 3'
    check.is("41: size", z.size(1), 6);
    check.is("41: above 0", z.above(1, 0), Orders.set(1, 2, 3, 4, 5));
    check.is("41: above 1", z.above(1, 1), Orders.set(2, 4, 5));
    check.is("41: above 1'", z.above(1, 2), Orders.set(5));
    check.is("41: above 2", z.above(1, 3), Orders.set(4, 5));
    check.is("41: above 3", z.above(1, 4), Orders.set(5));
    z.doubled(0, 0, 1);
    // 0, 0', 1, 1', 2, 3: 2 is not in it, so that 0' is below it.
    check.is("41: above 0'", z.above(2, 1), Orders.set(3, 4, 5));
    check.is("41: above the first 0", z.above(2, 0), Orders.set(1, 2, 3, 4, 5));
    z.doubled(0, 2, 2);
    check.is("41: one alone", z.above(3, 2), Orders.set(3, 4));
    check.is("41: its second one", z.above(3, 3), Orders.set(4));
    check.is("41: a pentagon", z.congruences(3), 5);
    Orders.chain(z, 6);
    z.doubled(4, 0, 5);
    check.is("41: just 12", z.size(5), 12);
    Orders.chain(z, 12);
    check.fails("41: 13", Check.ARGUMENT, () -> z.doubled(6, 3, 3));
    Orders.of(z, 3, "21 10");
    z.doubled(7, 2, 1);
    // 0, 1, 1', 2, 2'
    check.is("41: downwards, above 2", z.above(8, 3), Orders.set(0, 1, 2, 4));
    check.is("41: downwards, above 2'", z.above(8, 4), Orders.set(0, 2));
    check.is("41: downwards, above 1", z.above(8, 1), Orders.set(0, 2));
    check.fails("41: not at most", Check.ARGUMENT, () -> z.doubled(0, 1, 2));
    check.fails("41: the wrong way", Check.ARGUMENT, () -> z.doubled(0, 3, 0));
    check.fails("41: low", Check.INDEX, () -> z.doubled(0, 4, 3));
    check.fails("41: high", Check.INDEX, () -> z.doubled(0, 0, -1));
    check.fails("41: order", Check.INDEX, () -> z.doubled(9, 0, 0));
    Orders.fill(z);
    check.fails("41: 10 orders", Check.STATE, () -> z.doubled(0, 0, 0));
    check.fails("41: the interval first", Check.ARGUMENT, () -> z.doubled(0, 2, 1));
    check.fails("41: the element first", Check.INDEX, () -> z.doubled(0, 4, 4));
  }

  private static void ideals() {
    Zetaposet z = new Zetaposet();
    Orders.of(z, 3, "02");
    check.is("42: number", z.ideals(0), 1);
    // none, 0, 1, 01, 02, 012
    check.is("42: size", z.size(1), 6);
    check.is("42: above none", z.above(1, 0), 62);
    check.is("42: above 0", z.above(1, 1), Orders.set(3, 4, 5));
    check.is("42: above 1", z.above(1, 2), Orders.set(3, 5));
    check.is("42: above 02", z.above(1, 4), Orders.set(5));
    Orders.chain(z, 11);
    z.ideals(2);
    check.is("42: just 12", z.size(3), 12);
    Orders.chain(z, 12);
    check.fails("42: 13", Check.ARGUMENT, () -> z.ideals(4));
    z.order(12);
    check.fails("42: 4096", Check.ARGUMENT, () -> z.ideals(5));
    check.fails("42: order", Check.INDEX, () -> z.ideals(6));
    Orders.fill(z);
    check.fails("42: 10 orders", Check.STATE, () -> z.ideals(0));
    check.fails("42: the size first", Check.ARGUMENT, () -> z.ideals(4));
    check.fails("42: the order first", Check.INDEX, () -> z.ideals(-1));
  }

  private static void cuts() {
    Zetaposet z = new Zetaposet();
    Orders.of(z, 4, "02 03 12 13");
    check.is("43: number", z.cuts(0), 1);
    // none, 0, 1, 01, 012, 013, 0123
    check.is("43: size", z.size(1), 7);
    check.is("43: above 01", z.above(1, 3), Orders.set(4, 5, 6));
    check.is("43: above 0", z.above(1, 1), Orders.set(3, 4, 5, 6));
    check.isTrue("43: a lattice", z.isLattice(1));
    Orders.pentagon(z);
    z.cuts(2);
    check.isTrue("43: of a lattice itself", z.areAlike(2, 3));
    z.order(1);
    z.cuts(4);
    check.is("43: of one", z.size(5), 1);
    z.order(10);
    z.cuts(6);
    check.is("43: just 12", z.size(7), 12);
    z.order(11);
    check.fails("43: 13", Check.ARGUMENT, () -> z.cuts(8));
    check.fails("43: order", Check.INDEX, () -> z.cuts(9));
    Orders.fill(z);
    check.fails("43: 10 orders", Check.STATE, () -> z.cuts(0));
    check.fails("43: the size first", Check.ARGUMENT, () -> z.cuts(8));
    check.fails("43: the order first", Check.INDEX, () -> z.cuts(-1));
  }

  private static void part() {
    Zetaposet z = new Zetaposet();
    Orders.of(z, 5, "42 21 13");
    check.is("44: number", z.part(0, Orders.set(1, 3, 4)), 1);
    check.is("44: size", z.size(1), 3);
    check.is("44: above 4", z.above(1, 2), Orders.set(0, 1));
    check.is("44: above 1", z.above(1, 0), Orders.set(1));
    z.part(0, 31);
    check.isTrue("44: all", z.areAlike(0, 2));
    z.part(0, 1);
    check.is("44: one", z.size(3), 1);
    Orders.of(z, 4, "30 01");
    z.part(4, Orders.set(0, 2, 3));
    check.is("44: the first stays the first", z.above(5, 2), Orders.set(0));
    check.is("44: what is between is not needed", z.above(5, 0), 0);
    check.fails("44: none", Check.ARGUMENT, () -> z.part(0, 0));
    check.fails("44: no such ones", Check.ARGUMENT, () -> z.part(0, 32));
    check.fails("44: some that are, some not", Check.ARGUMENT, () -> z.part(0, 33));
    check.fails("44: negative", Check.ARGUMENT, () -> z.part(0, -1));
    check.fails("44: the highest bit", Check.ARGUMENT, () -> z.part(0, Integer.MIN_VALUE | 3));
    check.fails("44: order", Check.INDEX, () -> z.part(6, 0));
    Orders.fill(z);
    check.fails("44: 10 orders", Check.STATE, () -> z.part(0, 1));
    check.fails("44: the set first", Check.ARGUMENT, () -> z.part(0, 0));
    check.fails("44: the order first", Check.INDEX, () -> z.part(-1, 0));
  }

  private static void idealCount() {
    Zetaposet z = new Zetaposet();
    z.order(12);
    check.is("45: antichain", z.idealCount(0), 4096);
    Orders.chain(z, 12);
    check.is("45: chain", z.idealCount(1), 13);
    z.subsets(3);
    check.is("45: subsets", z.idealCount(2), 20);
    check.fails("45: order", Check.INDEX, () -> z.idealCount(3));
    check.fails("45: negative", Check.INDEX, () -> z.idealCount(-1));
  }

  private static void toggle() {
    Zetaposet z = new Zetaposet();
    Orders.of(z, 3, "01");
    check.is("46: in", z.toggle(0, 0, 0), 1);
    check.is("46: out", z.toggle(0, 5, 2), 1);
    check.is("46: not in", z.toggle(0, 4, 1), 4);
    check.is("46: not out", z.toggle(0, 3, 0), 3);
    check.fails("46: no ideal", Check.ARGUMENT, () -> z.toggle(0, 2, 0));
    check.fails("46: no such elements", Check.ARGUMENT, () -> z.toggle(0, 8, 0));
    check.fails("46: negative", Check.ARGUMENT, () -> z.toggle(0, -1, 0));
    check.fails("46: element", Check.INDEX, () -> z.toggle(0, 0, 3));
    check.fails("46: negative element", Check.INDEX, () -> z.toggle(0, 0, -1));
    check.fails("46: the element first", Check.INDEX, () -> z.toggle(0, 2, 3));
    check.fails("46: order", Check.INDEX, () -> z.toggle(1, 0, 0));
  }

  private static void turn() {
    Zetaposet z = new Zetaposet();
    z.subsets(3);
    check.is("47: of none", z.turn(0, 0), 1);
    check.is("47: of the least", z.turn(0, 1), Orders.set(0, 1, 2, 4));
    check.is("47: of all", z.turn(0, 255), 0);
    // Not in it: 2, 3, 4, .. ; the least of them 2 and 4, so that 1 is left out.
    check.is("47: one goes out", z.turn(0, 3), Orders.set(0, 2, 4));
    check.fails("47: no ideal", Check.ARGUMENT, () -> z.turn(0, 2));
    check.fails("47: no such elements", Check.ARGUMENT, () -> z.turn(0, 256));
    check.fails("47: negative", Check.ARGUMENT, () -> z.turn(0, Integer.MIN_VALUE));
    check.fails("47: order", Check.INDEX, () -> z.turn(1, 2));
  }

  private static void orbit() {
    Zetaposet z = new Zetaposet();
    Orders.chain(z, 11);
    check.is("48: chain", z.orbit(0, 0, false), 12);
    check.is("48: its sum", z.orbit(0, 7, true), 66);
    z.order(12);
    check.is("48: antichain", z.orbit(1, 5, false), 2);
    check.is("48: its sum", z.orbit(1, 5, true), 12);
    z.subsets(3);
    check.is("48: subsets", z.orbit(2, 0, false), 5);
    check.is("48: its sum is half of all", z.orbit(2, 0, true), 20);
    Orders.of(z, 5, "01 23 34");
    check.is("48: two chains", z.orbit(3, 0, false), 12);
    check.fails("48: no ideal", Check.ARGUMENT, () -> z.orbit(0, 2, true));
    check.fails("48: no such elements", Check.ARGUMENT, () -> z.orbit(0, 4096, false));
    check.fails("48: order", Check.INDEX, () -> z.orbit(4, 2, false));
    check.fails("48: negative", Check.INDEX, () -> z.orbit(-1, 0, false));
  }
}
