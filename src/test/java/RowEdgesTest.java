/** The edges of promises 26 to 34: rows, questions, the dimension and orders of intervals. */
public final class RowEdgesTest {
  private static final Edges edges = new Edges("RowEdgesTest", 26, 34);

  private static final Edges.Build TWELVE = z -> z.order(12);
  private static final Edges.Build CHAIN = z -> Orders.chain(z, 12);
  private static final Edges.Build ONE = z -> z.order(1);
  private static final String NO_ROW = "Throws `IllegalArgumentException` if there is no such row";
  private static final long ALL_OF_TWELVE = 479001600L;

  private interface OfRow {
    Object of(Zetaposet z, int order, long row);
  }

  public static void main(String[] args) {
    rows();
    rowAt();
    promote();
    evacuate();
    jumps();
    balance();
    questions();
    dimension();
    isOfIntervals();
    edges.end();
  }

  private static void noRow(int promise, OfRow ask) {
    edges.of(promise, NO_ROW);
    long[] never = {
      -1, -3, Long.MIN_VALUE, Long.MIN_VALUE + 1, Long.MAX_VALUE, 1L << 32, (1L << 32) + 1,
      -(1L << 32), -(1L << 32) + 1, 1L << 40, 1L << 63, Integer.MIN_VALUE, ALL_OF_TWELVE,
      ALL_OF_TWELVE + 1, 4294967296L + ALL_OF_TWELVE - 1
    };
    for (long row : never) {
      edges.refuses(TWELVE, "of an antichain, row " + row, Check.ARGUMENT, z -> ask.of(z, 0, row));
      edges.refuses(CHAIN, "of a chain, row " + row, Check.ARGUMENT, z -> ask.of(z, 0, row));
    }
    edges.refuses(CHAIN, "a chain has no second one", Check.ARGUMENT, z -> ask.of(z, 0, 1));
    edges.refuses(ONE, "nor has one", Check.ARGUMENT, z -> ask.of(z, 0, 1));
    edges.refuses(Edges.SOME, "three rows, the fourth", Check.ARGUMENT, z -> ask.of(z, 1, 3));
    Edges.Build lesser = z -> {
      z.order(12);
      z.rows(0);
      z.clear();
      z.order(2);
    };
    edges.refuses(lesser, "where there were more", Check.ARGUMENT, z -> ask.of(z, 0, 2));
    Edges.Build related = z -> {
      z.order(2);
      z.rowAt(0, 1, 0);
      z.relate(0, 0, 1);
    };
    edges.refuses(related, "which there was before", Check.ARGUMENT, z -> ask.of(z, 0, 1));
    edges.first(Edges.SOME, "no order, no row", Check.INDEX, z -> ask.of(z, 5, -1));
    edges.first(Edges.SOME, "negative, no row", Check.INDEX, z -> ask.of(z, -1, 1L << 40));
  }

  private static void rows() {
    edges.noOrder(26, Edges.NO_ORDER, (z, order) -> z.rows(order));
    edges.of(26, "Returns the number of rows.");
    edges.answers(ONE, "of one", z -> z.rows(0), 1L);
    edges.answers(CHAIN, "of a chain", z -> z.rows(0), 1L);
    edges.answers(TWELVE, "of an antichain", z -> z.rows(0), ALL_OF_TWELVE);
  }

  private static void rowAt() {
    edges.noOrder(27, Edges.NO_ORDER + ", or place", (z, order) -> z.rowAt(order, 0, 0));
    edges.noElement(27, Edges.NO_ORDER + ", or place", (z, order, p) -> z.rowAt(order, 0, p));
    edges.first(Edges.SOME, "no place, no row", Check.INDEX, z -> z.rowAt(1, 3, 3));
    edges.first(Edges.SOME, "negative place, no row", Check.INDEX, z -> z.rowAt(1, -1, -1));
    noRow(27, (z, order, row) -> z.rowAt(order, row, 0));
    edges.of(27, "- `place`: the place, from 0");
    for (int p = 0; p < 12; p++) {
      int place = p;
      edges.answers(TWELVE, "of the first row", z -> z.rowAt(0, 0, place), p);
      edges.answers(TWELVE, "of the last row", z -> z.rowAt(0, ALL_OF_TWELVE - 1, place), 11 - p);
      edges.answers(CHAIN, "of a chain", z -> z.rowAt(0, 0, place), p);
    }
    edges.answers(ONE, "of one", z -> z.rowAt(0, 0, 0), 0);
  }

  private static void promote() {
    edges.noOrder(28, Edges.NO_ORDER, (z, order) -> z.promote(order, 0));
    noRow(28, (z, order, row) -> z.promote(order, row));
    edges.of(28, "Promotes a row.");
    edges.answers(ONE, "of one", z -> z.promote(0, 0), 0L);
    edges.answers(CHAIN, "of a chain", z -> z.promote(0, 0), 0L);
    // The first element goes to the end: 1 to 11 and 0 have 1 + 10! + 9! + .. behind them.
    edges.answers(TWELVE, "the first row", z -> z.promote(0, 0), 43954713L);
    edges.answers(TWELVE, "the last row", z -> z.promote(0, ALL_OF_TWELVE - 1), 435046886L);
  }

  private static void evacuate() {
    edges.noOrder(29, Edges.NO_ORDER, (z, order) -> z.evacuate(order, 0));
    noRow(29, (z, order, row) -> z.evacuate(order, row));
    edges.of(29, "Evacuates a row.");
    edges.answers(ONE, "of one", z -> z.evacuate(0, 0), 0L);
    edges.answers(CHAIN, "of a chain", z -> z.evacuate(0, 0), 0L);
    edges.answers(TWELVE, "the first row", z -> z.evacuate(0, 0), ALL_OF_TWELVE - 1);
    edges.answers(TWELVE, "the last row", z -> z.evacuate(0, ALL_OF_TWELVE - 1), 0L);
  }

  private static void jumps() {
    edges.noOrder(30, Edges.NO_ORDER, (z, order) -> z.jumps(order));
    edges.of(30, "Returns the fewest jumps of a row.");
    edges.answers(ONE, "of one", z -> z.jumps(0), 0);
    edges.answers(CHAIN, "of a chain", z -> z.jumps(0), 0);
    edges.answers(TWELVE, "of an antichain", z -> z.jumps(0), 11);
    Edges.Build late = z -> Orders.of(z, 12, "ab");
    edges.answers(late, "the last two related", z -> z.jumps(0), 10);
  }

  private static void balance() {
    edges.noOrder(31, Edges.NO_ORDER, (z, order) -> z.balance(order));
    edges.of(31, "Throws `NoSuchElementException` if all pairs are related");
    edges.refuses(ONE, "of one, which has none", Check.NONE, z -> z.balance(0));
    edges.refuses(CHAIN, "of twelve", Check.NONE, z -> z.balance(0));
    Edges.Build two = z -> Orders.of(z, 2, "10");
    edges.refuses(two, "of two, downwards", Check.NONE, z -> z.balance(0));
    edges.of(31, "Returns the number of rows.");
    Edges.Build last = z -> {
      Orders.chain(z, 10);
      z.order(2);
      z.sum(0, 1, true);
      z.sum(1, 0, true);
    };
    edges.answers(last, "the last two alone", z -> z.balance(2), 1L);
    edges.answers(last, "the first two alone", z -> z.balance(3), 1L);
    edges.answers(last, "two", z -> z.balance(1), 1L);
    edges.answers(TWELVE, "half of all", z -> z.balance(0), ALL_OF_TWELVE / 2);
  }

  private static void questions() {
    edges.noOrder(32, Edges.NO_ORDER, (z, order) -> z.questions(order));
    edges.of(32, "Throws `UnsupportedOperationException` if it has more than 30 rows");
    Edges.Build thirty = z -> Orders.of(z, 5, "12 13 14");
    Edges.Build thirtyOne = z -> Orders.of(z, 7, "12 03 23 24 25 36 46");
    Edges.Build thirtyTwo = z -> Orders.of(z, 6, "12 03 13 14 35");
    edges.answers(thirty, "it has 30", z -> z.rows(0), 30L);
    edges.answers(thirtyOne, "it has 31", z -> z.rows(0), 31L);
    edges.answers(thirtyTwo, "it has 32", z -> z.rows(0), 32L);
    edges.answers(thirty, "30, of 32 that five questions tell", z -> z.questions(0), 5);
    edges.refuses(thirtyOne, "31", Check.UNSUPPORTED, z -> z.questions(0));
    edges.refuses(thirtyTwo, "32", Check.UNSUPPORTED, z -> z.questions(0));
    edges.refuses(TWELVE, "12 factorial", Check.UNSUPPORTED, z -> z.questions(0));
    edges.of(32, "Returns the fewest questions.");
    edges.answers(ONE, "of one", z -> z.questions(0), 0);
    edges.answers(CHAIN, "of a chain", z -> z.questions(0), 0);
    Edges.Build last = z -> {
      Orders.chain(z, 10);
      z.order(2);
      z.sum(0, 1, true);
    };
    edges.answers(last, "two rows of twelve", z -> z.questions(2), 1);
  }

  private static void dimension() {
    edges.noOrder(33, Edges.NO_ORDER, (z, order) -> z.dimension(order));
    edges.of(33, "Throws `UnsupportedOperationException` if it has more than 6 elements");
    for (int n = 7; n <= 12; n++) {
      int many = n;
      edges.refuses(z -> z.order(many), n + " apart", Check.UNSUPPORTED, z -> z.dimension(0));
      edges.refuses(z -> Orders.chain(z, many), n + " in a chain", Check.UNSUPPORTED,
          z -> z.dimension(0));
    }
    edges.of(33, "Returns the dimension.");
    for (int n = 1; n <= 6; n++) {
      int many = n;
      edges.answers(z -> z.order(many), n + " apart", z -> z.dimension(0), n == 1 ? 1 : 2);
      edges.answers(z -> Orders.chain(z, many), n + " in a chain", z -> z.dimension(0), 1);
    }
    Edges.Build crown = z -> Orders.of(z, 6, "04 05 13 15 23 24");
    edges.answers(crown, "the greatest that six can have", z -> z.dimension(0), 3);
  }

  private static void isOfIntervals() {
    edges.noOrder(34, Edges.NO_ORDER, (z, order) -> z.isOfIntervals(order, false));
    edges.noOrder(34, Edges.NO_ORDER, (z, order) -> z.isOfIntervals(order, true));
    edges.of(34, "- `areLike`: whether of like ones");
    for (boolean areLike : new boolean[] {false, true}) {
      edges.answers(ONE, "one", z -> z.isOfIntervals(0, areLike), true);
      edges.answers(CHAIN, "a chain", z -> z.isOfIntervals(0, areLike), true);
      edges.answers(TWELVE, "an antichain", z -> z.isOfIntervals(0, areLike), true);
      Edges.Build pairs = z -> Orders.of(z, 12, "ba 98");
      edges.answers(pairs, "two and two at the end", z -> z.isOfIntervals(0, areLike), false);
      Edges.Build pair = z -> Orders.of(z, 12, "ba");
      edges.answers(pair, "two, and each other one", z -> z.isOfIntervals(0, areLike), true);
      Edges.Build three = z -> Orders.of(z, 12, "ba a9");
      edges.answers(three, "three and one", z -> z.isOfIntervals(0, areLike), !areLike);
    }
  }
}
