/** The edges of promises 35 to 48: lattices, ideals, cuts and parts. */
public final class LatticeEdgesTest {
  private static final Edges edges = new Edges("LatticeEdgesTest", 35, 48);

  private static final Edges.Build ONE = z -> z.order(1);
  private static final Edges.Build TWO = z -> z.order(2);
  private static final Edges.Build TWELVE = z -> z.order(12);
  private static final Edges.Build CHAIN = z -> Orders.chain(z, 12);
  /** Twelve elements, ten of them side by side between the first and the last. */
  private static final Edges.Build BALL = z ->
      Orders.of(z, 12, "01 02 03 04 05 06 07 08 09 0a 1b 2b 3b 4b 5b 6b 7b 8b 9b ab");
  /** Ten orders of 12 elements, the second one a chain. */
  private static final Edges.Build FULL_OF_BIG = z -> {
    z.order(12);
    Orders.chain(z, 12);
    for (int i = 2; i < 10; i++) {
      z.order(12);
    }
  };
  private static final String NO_LATTICE =
      "Throws `UnsupportedOperationException` if it is no lattice";
  private static final String NO_IDEAL = "Throws `IllegalArgumentException` if it is no ideal";
  private static final String THERE_IS_NONE = "Throws `NoSuchElementException` if there is none";

  private interface OfIdeal {
    Object of(Zetaposet z, int order, int ideal);
  }

  public static void main(String[] args) {
    isLattice();
    join();
    meet();
    isOfKind();
    joined();
    congruences();
    doubled();
    ideals();
    cuts();
    part();
    idealCount();
    toggle();
    turn();
    orbit();
    edges.end();
  }

  private static void isLattice() {
    edges.noOrder(35, Edges.NO_ORDER, (z, order) -> z.isLattice(order));
    edges.of(35, "Returns whether an order is a lattice.");
    edges.answers(ONE, "one", z -> z.isLattice(0), true);
    edges.answers(TWO, "two apart", z -> z.isLattice(0), false);
    edges.answers(CHAIN, "a chain", z -> z.isLattice(0), true);
    edges.answers(TWELVE, "an antichain", z -> z.isLattice(0), false);
    edges.answers(BALL, "ten between", z -> z.isLattice(0), true);
    edges.answers(z -> Orders.of(z, 3, "10 20"), "no meet", z -> z.isLattice(0), false);
    edges.answers(z -> Orders.of(z, 3, "01 02"), "no join", z -> z.isLattice(0), false);
    Edges.Build late = z -> {
      Orders.chain(z, 10);
      z.order(2);
      z.sum(0, 1, true);
      z.sum(1, 0, true);
    };
    edges.answers(late, "the last two alone without a join", z -> z.isLattice(2), false);
    edges.answers(late, "the first two alone without a meet", z -> z.isLattice(3), false);
  }

  private static void join() {
    edges.noOrder(36, Edges.NO_ORDER_OR_ELEMENT, (z, order) -> z.join(order, 0, 0));
    edges.noElement(36, Edges.NO_ORDER_OR_ELEMENT, (z, order, x) -> z.join(order, x, 0));
    edges.noElement(36, Edges.NO_ORDER_OR_ELEMENT, (z, order, x) -> z.join(order, 0, x));
    edges.noElement(36, Edges.NO_ORDER_OR_ELEMENT, (z, order, x) -> z.join(order, x, x));
    edges.of(36, THERE_IS_NONE);
    edges.refuses(TWO, "none above", Check.NONE, z -> z.join(0, 0, 1));
    edges.refuses(TWELVE, "none of twelve", Check.NONE, z -> z.join(0, 11, 0));
    Edges.Build both = z -> Orders.of(z, 4, "02 03 12 13");
    edges.refuses(both, "two, and no least one", Check.NONE, z -> z.join(0, 0, 1));
    edges.refuses(both, "none above these", Check.NONE, z -> z.join(0, 3, 2));
    edges.of(36, "- `other`: another one, or the same");
    for (int x = 0; x < 12; x++) {
      int element = x;
      edges.answers(TWELVE, "the same", z -> z.join(0, element, element), x);
      edges.answers(CHAIN, "with the least", z -> z.join(0, 0, element), x);
      edges.answers(CHAIN, "with the greatest", z -> z.join(0, element, 11), 11);
    }
    edges.answers(BALL, "of two between", z -> z.join(0, 9, 10), 11);
  }

  private static void meet() {
    edges.noOrder(37, Edges.NO_ORDER_OR_ELEMENT, (z, order) -> z.meet(order, 0, 0));
    edges.noElement(37, Edges.NO_ORDER_OR_ELEMENT, (z, order, x) -> z.meet(order, x, 0));
    edges.noElement(37, Edges.NO_ORDER_OR_ELEMENT, (z, order, x) -> z.meet(order, 0, x));
    edges.noElement(37, Edges.NO_ORDER_OR_ELEMENT, (z, order, x) -> z.meet(order, x, x));
    edges.of(37, THERE_IS_NONE);
    edges.refuses(TWO, "none below", Check.NONE, z -> z.meet(0, 0, 1));
    edges.refuses(TWELVE, "none of twelve", Check.NONE, z -> z.meet(0, 11, 0));
    Edges.Build both = z -> Orders.of(z, 4, "02 03 12 13");
    edges.refuses(both, "two, and no greatest one", Check.NONE, z -> z.meet(0, 2, 3));
    edges.refuses(both, "none below these", Check.NONE, z -> z.meet(0, 1, 0));
    edges.of(37, "- `other`: another one, or the same");
    for (int x = 0; x < 12; x++) {
      int element = x;
      edges.answers(TWELVE, "the same", z -> z.meet(0, element, element), x);
      edges.answers(CHAIN, "with the least", z -> z.meet(0, 0, element), 0);
      edges.answers(CHAIN, "with the greatest", z -> z.meet(0, element, 11), x);
    }
    edges.answers(BALL, "of two between", z -> z.meet(0, 9, 10), 0);
  }

  private static void isOfKind() {
    for (char kind : new char[] {'d', 'm', 'g'}) {
      edges.noOrder(38, Edges.NO_ORDER, (z, order) -> z.isOfKind(order, kind));
    }
    edges.of(38, "Throws `IllegalArgumentException` if there is no such kind");
    char[] never = {
      0, 1, 'D', 'M', 'G', 'c', 'e', 'f', 'h', 'l', 'n', ' ', 'd' + 256, 'm' + 256, 'g' + 512, 255,
      0x8000 + 'd', 0xffff
    };
    for (char kind : never) {
      edges.refuses(CHAIN, "" + (int) kind, Check.ARGUMENT, z -> z.isOfKind(0, kind));
      edges.first(TWO, "no lattice, no kind", Check.ARGUMENT, z -> z.isOfKind(0, kind));
      edges.first(TWO, "no order, no kind", Check.INDEX, z -> z.isOfKind(1, kind));
    }
    edges.of(38, NO_LATTICE);
    for (char kind : new char[] {'d', 'm', 'g'}) {
      edges.refuses(TWO, "two apart, " + kind, Check.UNSUPPORTED, z -> z.isOfKind(0, kind));
      edges.refuses(TWELVE, "twelve apart, " + kind, Check.UNSUPPORTED, z -> z.isOfKind(0, kind));
      edges.first(TWO, "no order", Check.INDEX, z -> z.isOfKind(-1, kind));
    }
    edges.of(38, "- `kind`: d distributive, m modular, g geometric");
    for (char kind : new char[] {'d', 'm', 'g'}) {
      edges.answers(ONE, "one, " + kind, z -> z.isOfKind(0, kind), true);
      edges.answers(CHAIN, "a chain, " + kind, z -> z.isOfKind(0, kind), kind != 'g');
      edges.answers(BALL, "ten between, " + kind, z -> z.isOfKind(0, kind), kind != 'd');
      edges.answers(z -> Orders.chain(z, 2), "two, " + kind, z -> z.isOfKind(0, kind), true);
      edges.answers(z -> Orders.pentagon(z), "a pentagon, " + kind, z -> z.isOfKind(0, kind),
          false);
    }
  }

  private static void joined() {
    edges.noOrder(39, Edges.NO_ORDER, (z, order) -> z.joined(order));
    edges.of(39, NO_LATTICE);
    edges.refuses(TWO, "two apart", Check.UNSUPPORTED, z -> z.joined(0));
    edges.refuses(TWELVE, "twelve apart", Check.UNSUPPORTED, z -> z.joined(0));
    edges.refuses(z -> Orders.of(z, 3, "01 02"), "no join", Check.UNSUPPORTED, z -> z.joined(0));
    edges.refuses(z -> Orders.of(z, 3, "10 20"), "no meet", Check.UNSUPPORTED, z -> z.joined(0));
    edges.of(39, "Returns the set.");
    edges.answers(ONE, "of one none", z -> z.joined(0), 0);
    edges.answers(CHAIN, "all but the least", z -> z.joined(0), 4094);
    edges.answers(BALL, "all between", z -> z.joined(0), 2046);
  }

  private static void congruences() {
    edges.noOrder(40, Edges.NO_ORDER, (z, order) -> z.congruences(order));
    edges.of(40, NO_LATTICE);
    edges.refuses(TWO, "two apart", Check.UNSUPPORTED, z -> z.congruences(0));
    edges.refuses(TWELVE, "twelve apart", Check.UNSUPPORTED, z -> z.congruences(0));
    edges.refuses(z -> Orders.of(z, 3, "01 02"), "no join", Check.UNSUPPORTED,
        z -> z.congruences(0));
    edges.refuses(z -> Orders.of(z, 3, "10 20"), "no meet", Check.UNSUPPORTED,
        z -> z.congruences(0));
    edges.of(40, "Returns the number of congruences, both trivial ones counted.");
    edges.answers(ONE, "of one, where both are one", z -> z.congruences(0), 1);
    edges.answers(BALL, "the trivial ones alone", z -> z.congruences(0), 2);
    for (int n = 2; n <= 12; n++) {
      int many = n;
      edges.answers(z -> Orders.chain(z, many), "of a chain", z -> z.congruences(0), 1 << n - 1);
    }
  }

  private static void doubled() {
    edges.noOrder(41, Edges.NO_ORDER_OR_ELEMENT, (z, order) -> z.doubled(order, 0, 0));
    edges.noElement(41, Edges.NO_ORDER_OR_ELEMENT, (z, order, x) -> z.doubled(order, x, 0));
    edges.noElement(41, Edges.NO_ORDER_OR_ELEMENT, (z, order, x) -> z.doubled(order, 0, x));
    edges.noElement(41, Edges.NO_ORDER_OR_ELEMENT, (z, order, x) -> z.doubled(order, x, x));
    edges.of(41, "Throws `IllegalArgumentException` if the one is not at most the other one, "
        + "or it would have more than 12 elements");
    edges.refuses(Edges.SOME, "not related", Check.ARGUMENT, z -> z.doubled(1, 0, 2));
    edges.refuses(Edges.SOME, "the wrong way", Check.ARGUMENT, z -> z.doubled(1, 1, 0));
    Edges.Build eleven = z -> Orders.chain(z, 11);
    edges.answers(eleven, "11 and 1", z -> z.size(z.doubled(0, 10, 10)), 12);
    edges.refuses(eleven, "11 and 2", Check.ARGUMENT, z -> z.doubled(0, 9, 10));
    edges.refuses(eleven, "11 and 11", Check.ARGUMENT, z -> z.doubled(0, 0, 10));
    edges.refuses(CHAIN, "12 and 1", Check.ARGUMENT, z -> z.doubled(0, 11, 11));
    edges.refuses(TWELVE, "12 and 1, apart", Check.ARGUMENT, z -> z.doubled(0, 0, 0));
    Edges.Build six = z -> Orders.chain(z, 6);
    edges.answers(six, "6 and 6", z -> z.size(z.doubled(0, 0, 5)), 12);
    edges.tenOrders(41, z -> z.doubled(2, 0, 3));
    edges.first(FULL_OF_BIG, "13, and 10 orders", Check.ARGUMENT, z -> z.doubled(0, 0, 0));
    edges.first(Edges.FULL, "not at most, 10 orders", Check.ARGUMENT, z -> z.doubled(1, 1, 0));
    edges.first(FULL_OF_BIG, "no element, and 10 orders", Check.INDEX, z -> z.doubled(0, 12, 12));
    edges.first(FULL_OF_BIG, "no order", Check.INDEX, z -> z.doubled(10, 0, 0));
    edges.first(Edges.SOME, "none, not at most", Check.INDEX, z -> z.doubled(1, 2, 3));
    edges.of(41, "Adds an order with an interval that is doubled.");
    edges.answers(ONE, "of one", z -> z.above(z.doubled(0, 0, 0), 0), 2);
    edges.answers(ONE, "its second one", z -> z.above(z.doubled(0, 0, 0), 1), 0);
    edges.answers(TWO, "one of two apart", z -> z.above(z.doubled(0, 1, 1), 1), 4);
    edges.answers(TWO, "the other one", z -> z.above(z.doubled(0, 1, 1), 0), 0);
    edges.answers(six, "all, the least second one", z -> z.above(z.doubled(0, 0, 5), 1), 2728);
    edges.answers(six, "all, the last one", z -> z.above(z.doubled(0, 0, 5), 10), 2048);
    edges.answers(six, "all, the last second one", z -> z.above(z.doubled(0, 0, 5), 11), 0);
  }

  private static void ideals() {
    edges.noOrder(42, Edges.NO_ORDER, (z, order) -> z.ideals(order));
    edges.of(42, Edges.OVER_12);
    Edges.Build eleven = z -> Orders.chain(z, 11);
    Edges.Build chains = z -> Orders.of(z, 5, "01 23 34");
    // With 1 or without it: none of the others, or 0, with 4 or not, with none, 2, or 2 and 3.
    Edges.Build fourteen = z -> Orders.of(z, 5, "02 03 04 23");
    edges.answers(eleven, "12 of a chain", z -> z.size(z.ideals(0)), 12);
    edges.answers(chains, "12 of two chains", z -> z.size(z.ideals(0)), 12);
    edges.refuses(CHAIN, "13", Check.ARGUMENT, z -> z.ideals(0));
    edges.refuses(fourteen, "14", Check.ARGUMENT, z -> z.ideals(0));
    edges.refuses(TWELVE, "4096", Check.ARGUMENT, z -> z.ideals(0));
    edges.tenOrders(42, z -> z.ideals(1));
    edges.first(FULL_OF_BIG, "4096, and 10 orders", Check.ARGUMENT, z -> z.ideals(0));
    edges.first(FULL_OF_BIG, "13, and 10 orders", Check.ARGUMENT, z -> z.ideals(1));
    edges.first(FULL_OF_BIG, "no order", Check.INDEX, z -> z.ideals(10));
    edges.of(42, "Adds the order of the ideals of an order.");
    edges.answers(ONE, "of one: none, and it", z -> z.above(z.ideals(0), 0), 2);
    edges.answers(eleven, "none is below all", z -> z.above(z.ideals(0), 0), 4094);
    edges.answers(eleven, "all is above all", z -> z.above(z.ideals(0), 11), 0);
  }

  private static void cuts() {
    edges.noOrder(43, Edges.NO_ORDER, (z, order) -> z.cuts(order));
    edges.of(43, Edges.OVER_12);
    edges.answers(z -> z.order(10), "12", z -> z.size(z.cuts(0)), 12);
    edges.answers(CHAIN, "12 of a chain", z -> z.size(z.cuts(0)), 12);
    edges.answers(BALL, "12 of a lattice", z -> z.size(z.cuts(0)), 12);
    edges.refuses(z -> z.order(11), "13", Check.ARGUMENT, z -> z.cuts(0));
    edges.refuses(TWELVE, "14", Check.ARGUMENT, z -> z.cuts(0));
    Edges.Build late = z -> {
      Orders.chain(z, 10);
      z.order(2);
      z.sum(0, 1, true);
    };
    edges.refuses(late, "13, the last one all", Check.ARGUMENT, z -> z.cuts(2));
    edges.tenOrders(43, z -> z.cuts(1));
    edges.first(FULL_OF_BIG, "14, and 10 orders", Check.ARGUMENT, z -> z.cuts(0));
    edges.first(FULL_OF_BIG, "no order", Check.INDEX, z -> z.cuts(-1));
    edges.of(43, "Adds the order of the cuts of an order.");
    edges.answers(ONE, "of one: it alone", z -> z.size(z.cuts(0)), 1);
    edges.answers(TWO, "of two: none, each, both", z -> z.above(z.cuts(0), 0), 14);
    edges.answers(CHAIN, "none is no cut", z -> z.above(z.cuts(0), 0), 4094);
  }

  private static void part() {
    edges.noOrder(44, Edges.NO_ORDER, (z, order) -> z.part(order, 1));
    edges.of(44,
        "Throws `IllegalArgumentException` if the set is empty, or there are no such elements");
    int[] never = {
      0, 8, 9, 15, 16, 1 << 11, 1 << 12, 1 << 30, 1 << 31, -1, -8, -7, (1 << 31) | 7,
      Integer.MAX_VALUE, 65536 | 1
    };
    for (int set : never) {
      edges.refuses(Edges.SOME, "of three, " + set, Check.ARGUMENT, z -> z.part(1, set));
    }
    for (int set : new int[] {0, 1 << 12, 4096 | 4095, -1, Integer.MIN_VALUE, 1 << 13 | 1}) {
      edges.refuses(TWELVE, "of twelve, " + set, Check.ARGUMENT, z -> z.part(0, set));
    }
    edges.tenOrders(44, z -> z.part(1, 5));
    edges.first(Edges.FULL, "empty, and 10 orders", Check.ARGUMENT, z -> z.part(1, 0));
    edges.first(Edges.FULL, "no such, and 10 orders", Check.ARGUMENT, z -> z.part(1, 8));
    edges.first(Edges.FULL, "no order, empty", Check.INDEX, z -> z.part(10, 0));
    edges.of(44, "Adds the part of an order that some elements are, by their order.");
    edges.answers(CHAIN, "all", z -> z.size(z.part(0, 4095)), 12);
    edges.answers(ONE, "the only one", z -> z.size(z.part(0, 1)), 1);
    for (int x = 0; x < 12; x++) {
      int set = 1 << x;
      edges.answers(CHAIN, "one of them", z -> z.size(z.part(0, set)), 1);
      edges.answers(CHAIN, "all but one", z -> z.above(z.part(0, 4095 - set), 0), 2046);
    }
    edges.answers(CHAIN, "the ends", z -> z.above(z.part(0, 2049), 0), 2);
  }

  private static void idealCount() {
    edges.noOrder(45, Edges.NO_ORDER, (z, order) -> z.idealCount(order));
    edges.of(45, "Returns the number of ideals.");
    edges.answers(ONE, "of one: none, and it", z -> z.idealCount(0), 2);
    edges.answers(CHAIN, "of a chain", z -> z.idealCount(0), 13);
    edges.answers(TWELVE, "all sets", z -> z.idealCount(0), 4096);
  }

  /** Order 1 has 0 below 1, and 2 beside. */
  private static void noIdeal(int promise, OfIdeal ask) {
    edges.of(promise, NO_IDEAL);
    int[] never = {
      2, 6, 8, 9, 15, 1 << 11, 1 << 12, (1 << 12) | 1, 1 << 30, 1 << 31, (1 << 31) | 1, -1, -8, -2,
      Integer.MAX_VALUE, 65536, 256
    };
    for (int set : never) {
      edges.refuses(Edges.SOME, "of three, " + set, Check.ARGUMENT, z -> ask.of(z, 1, set));
    }
    for (int set : new int[] {1 << 12, 8191, -1, Integer.MIN_VALUE, 1 << 31 | 4095}) {
      edges.refuses(TWELVE, "of twelve, " + set, Check.ARGUMENT, z -> ask.of(z, 0, set));
    }
    edges.refuses(CHAIN, "the highest alone", Check.ARGUMENT, z -> ask.of(z, 0, 2048));
    edges.refuses(CHAIN, "all but the least", Check.ARGUMENT, z -> ask.of(z, 0, 4094));
    edges.first(Edges.SOME, "no order, no ideal", Check.INDEX, z -> ask.of(z, 5, -1));
    edges.first(Edges.SOME, "negative, no ideal", Check.INDEX, z -> ask.of(z, -1, 2));
  }

  private static void toggle() {
    edges.noOrder(46, Edges.NO_ORDER_OR_ELEMENT, (z, order) -> z.toggle(order, 0, 0));
    edges.noElement(46, Edges.NO_ORDER_OR_ELEMENT, (z, order, x) -> z.toggle(order, 0, x));
    edges.noElement(46, Edges.NO_ORDER_OR_ELEMENT, (z, order, x) -> z.toggle(order, 1, x));
    noIdeal(46, (z, order, ideal) -> z.toggle(order, ideal, 0));
    edges.first(Edges.SOME, "no element, no ideal", Check.INDEX, z -> z.toggle(1, 2, 3));
    edges.first(Edges.SOME, "negative, no ideal", Check.INDEX, z -> z.toggle(1, -1, -1));
    edges.of(46, "Returns the ideal then.");
    edges.answers(ONE, "into none", z -> z.toggle(0, 0, 0), 1);
    edges.answers(ONE, "to none", z -> z.toggle(0, 1, 0), 0);
    edges.answers(TWELVE, "to all", z -> z.toggle(0, 2047, 11), 4095);
    edges.answers(TWELVE, "from all", z -> z.toggle(0, 4095, 0), 4094);
    edges.answers(CHAIN, "not from all", z -> z.toggle(0, 4095, 0), 4095);
    edges.answers(CHAIN, "from all the highest", z -> z.toggle(0, 4095, 11), 2047);
    edges.answers(CHAIN, "not into none", z -> z.toggle(0, 0, 11), 0);
    edges.answers(CHAIN, "into none the lowest", z -> z.toggle(0, 0, 0), 1);
  }

  private static void turn() {
    edges.noOrder(47, Edges.NO_ORDER, (z, order) -> z.turn(order, 0));
    noIdeal(47, (z, order, ideal) -> z.turn(order, ideal));
    edges.of(47, "Returns the turn of an ideal.");
    edges.answers(ONE, "of none", z -> z.turn(0, 0), 1);
    edges.answers(ONE, "of all of one", z -> z.turn(0, 1), 0);
    edges.answers(TWELVE, "of none all", z -> z.turn(0, 0), 4095);
    edges.answers(TWELVE, "of all none", z -> z.turn(0, 4095), 0);
    edges.answers(TWELVE, "of some the others", z -> z.turn(0, 5), 4090);
    edges.answers(CHAIN, "of all of a chain", z -> z.turn(0, 4095), 0);
    edges.answers(CHAIN, "of all but one", z -> z.turn(0, 2047), 4095);
  }

  private static void orbit() {
    edges.noOrder(48, Edges.NO_ORDER, (z, order) -> z.orbit(order, 0, false));
    edges.noOrder(48, Edges.NO_ORDER, (z, order) -> z.orbit(order, 0, true));
    noIdeal(48, (z, order, ideal) -> z.orbit(order, ideal, false));
    noIdeal(48, (z, order, ideal) -> z.orbit(order, ideal, true));
    edges.of(48, "Returns how many ideals an orbit has, or the sum of their sizes.");
    for (int ideal : new int[] {0, 1}) {
      edges.answers(ONE, "both of one", z -> z.orbit(0, ideal, false), 2);
      edges.answers(ONE, "their sum", z -> z.orbit(0, ideal, true), 1);
    }
    for (int ideal : new int[] {0, 1, 2047, 4095}) {
      edges.answers(CHAIN, "all of a chain", z -> z.orbit(0, ideal, false), 13);
      edges.answers(CHAIN, "their sum", z -> z.orbit(0, ideal, true), 78);
      edges.answers(TWELVE, "two", z -> z.orbit(0, ideal, false), 2);
      edges.answers(TWELVE, "all together", z -> z.orbit(0, ideal, true), 12);
    }
    Edges.Build coprime = z -> Orders.of(z, 12, "01 12 34 45 56 78 89 9a ab");
    edges.answers(coprime, "of chains of 3, 4 and 5", z -> z.orbit(0, 0, false), 60);
    edges.answers(coprime, "half of all on the average", z -> z.orbit(0, 0, true), 360);
  }
}
