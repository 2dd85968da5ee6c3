/** The edges of promises 17 to 25: chains and antichains, and sums over intervals. */
public final class ChainEdgesTest {
  private static final Edges edges = new Edges("ChainEdgesTest", 17, 25);

  private static final Edges.Build TWELVE = z -> z.order(12);
  private static final Edges.Build CHAIN = z -> Orders.chain(z, 12);
  private static final Edges.Build ONE = z -> z.order(1);

  public static void main(String[] args) {
    width();
    antichain();
    inChains();
    chains();
    isSymmetric();
    moebius();
    rowsBetween();
    euler();
    characteristic();
    edges.end();
  }

  private static void width() {
    edges.noOrder(17, Edges.NO_ORDER, (z, order) -> z.width(order));
    edges.of(17, "Returns the width.");
    edges.answers(ONE, "of one", z -> z.width(0), 1);
    edges.answers(CHAIN, "of a chain", z -> z.width(0), 1);
    edges.answers(TWELVE, "of an antichain", z -> z.width(0), 12);
  }

  private static void antichain() {
    edges.noOrder(18, Edges.NO_ORDER, (z, order) -> z.antichain(order));
    edges.of(18, "Returns the greatest antichain, of several that with the least number.");
    edges.answers(ONE, "of one", z -> z.antichain(0), 1);
    edges.answers(TWELVE, "all", z -> z.antichain(0), 4095);
    edges.answers(CHAIN, "of twelve the lowest number", z -> z.antichain(0), 1);
    Edges.Build turned = z -> {
      CHAIN.of(z);
      z.dual(0);
    };
    edges.answers(turned, "the lowest number, though it is highest", z -> z.antichain(1), 1);
    Edges.Build six = z -> Orders.of(z, 12, "01 23 45 67 89 ab");
    edges.answers(six, "of 64 that with the least number", z -> z.antichain(0), 1365);
    Edges.Build late = z -> Orders.of(z, 12, "01 02");
    edges.answers(late, "the greatest, though it leaves out 0", z -> z.antichain(0), 4094);
    Edges.Build roof = z -> Orders.of(z, 12, "0b 1b 2b 3b 4b 5b 6b 7b 8b 9b a0");
    edges.answers(roof, "the first ten, not the next ten", z -> z.antichain(0), 1023);
  }

  private static void inChains() {
    edges.noOrder(19, Edges.NO_ORDER, (z, order) -> z.inChains(order, 1));
    edges.range(19, "- `chains`: how many chains, 0 to 12", Edges.SOME, 0, 12,
        (z, n) -> z.inChains(1, n));
    edges.first(Edges.SOME, "no order, 13 chains", Check.INDEX, z -> z.inChains(5, 13));
    edges.first(Edges.SOME, "no order, -1 chains", Check.INDEX, z -> z.inChains(-1, -1));
    edges.of(19, "Returns how many elements at most are in so many chains.");
    for (int k = 0; k <= 12; k++) {
      int many = k;
      edges.answers(TWELVE, "one each", z -> z.inChains(0, many), k);
      edges.answers(CHAIN, "all in one", z -> z.inChains(0, many), k == 0 ? 0 : 12);
      edges.answers(ONE, "one", z -> z.inChains(0, many), k == 0 ? 0 : 1);
    }
  }

  private static void chains() {
    edges.noOrder(20, Edges.NO_ORDER, (z, order) -> z.chains(order));
    edges.of(20, "Returns how many chains there are that are not empty.");
    edges.answers(ONE, "of one", z -> z.chains(0), 1);
    edges.answers(TWELVE, "one each", z -> z.chains(0), 12);
    edges.answers(CHAIN, "all sets but the empty one", z -> z.chains(0), 4095);
  }

  private static void isSymmetric() {
    edges.noOrder(21, Edges.NO_ORDER, (z, order) -> z.isSymmetric(order));
    edges.of(21, "Returns whether an order can be parted into symmetric chains.");
    edges.answers(ONE, "one", z -> z.isSymmetric(0), true);
    edges.answers(TWELVE, "an antichain", z -> z.isSymmetric(0), true);
    edges.answers(CHAIN, "a chain", z -> z.isSymmetric(0), true);
    Edges.Build beside = z -> {
      Orders.chain(z, 11);
      z.order(1);
      z.sum(0, 1, false);
    };
    edges.answers(beside, "one beside a chain", z -> z.isSymmetric(2), false);
    // Each would be in a chain by a step of two ranks; but it is not ranked.
    Edges.Build pentagon = z -> Orders.pentagon(z);
    edges.answers(pentagon, "not ranked", z -> z.isSymmetric(0), false);
    Edges.Build product = z -> {
      Orders.chain(z, 6);
      Orders.chain(z, 2);
      z.product(0, 1);
    };
    edges.answers(product, "twelve in two chains", z -> z.isSymmetric(2), true);
    Edges.Build two = z -> z.sum(Orders.chain(z, 6), Orders.chain(z, 6), false);
    edges.answers(two, "two long ones", z -> z.isSymmetric(2), true);
  }

  private static void moebius() {
    edges.noOrder(22, Edges.NO_ORDER_OR_ELEMENT, (z, order) -> z.moebius(order, 0, 0));
    edges.noElement(22, Edges.NO_ORDER_OR_ELEMENT, (z, order, x) -> z.moebius(order, x, 0));
    edges.noElement(22, Edges.NO_ORDER_OR_ELEMENT, (z, order, x) -> z.moebius(order, 0, x));
    edges.noElement(22, Edges.NO_ORDER_OR_ELEMENT, (z, order, x) -> z.moebius(order, x, x));
    edges.of(22, "- `high`: another one, or the same");
    for (int x = 0; x < 12; x++) {
      int element = x;
      edges.answers(CHAIN, "the same", z -> z.moebius(0, element, element), 1L);
      edges.answers(CHAIN, "the lowest and it", z -> z.moebius(0, 0, element),
          x == 0 ? 1L : x == 1 ? -1L : 0L);
      edges.answers(CHAIN, "it and the lowest", z -> z.moebius(0, element, 0), x == 0 ? 1L : 0L);
      edges.answers(TWELVE, "not related", z -> z.moebius(0, element, (element + 1) % 12), 0L);
    }
    Edges.Build wide = z -> Orders.of(z, 12, "01 02 03 04 15 16 17 25 26 27 35 36 37 45 46 47 "
        + "58 59 5a 68 69 6a 78 79 7a 8b 9b ab");
    // 1, -1 each of 4, 3 each of 3, then 1 - 4 + 9 = 6, so -6 each of 3, and 12 at last.
    edges.answers(wide, "great enough to be told apart", z -> z.moebius(0, 0, 11), 12L);
  }

  private static void rowsBetween() {
    edges.noOrder(23, Edges.NO_ORDER_OR_ELEMENT, (z, order) -> z.rowsBetween(order, 0, 0, 1));
    edges.noElement(23, Edges.NO_ORDER_OR_ELEMENT, (z, order, x) -> z.rowsBetween(order, x, 0, 0));
    edges.noElement(23, Edges.NO_ORDER_OR_ELEMENT, (z, order, x) -> z.rowsBetween(order, 0, x, 9));
    edges.range(23, "- `steps`: how many steps, 0 to 9", Edges.SOME, 0, 9,
        (z, n) -> z.rowsBetween(1, 0, 1, n));
    edges.first(Edges.SOME, "no order, 10 steps", Check.INDEX, z -> z.rowsBetween(5, 0, 0, 10));
    edges.first(Edges.SOME, "no low one", Check.INDEX, z -> z.rowsBetween(1, 3, 0, -1));
    edges.first(Edges.SOME, "no high one", Check.INDEX, z -> z.rowsBetween(1, 0, 3, 10));
    edges.of(23, "- `high`: another one, or the same");
    for (int k = 0; k <= 9; k++) {
      int steps = k;
      edges.answers(CHAIN, "the same", z -> z.rowsBetween(0, 11, 11, steps), 1L);
      edges.answers(TWELVE, "not related", z -> z.rowsBetween(0, 0, 11, steps), 0L);
      edges.answers(CHAIN, "downwards", z -> z.rowsBetween(0, 11, 0, steps), 0L);
      edges.answers(CHAIN, "the next one", z -> z.rowsBetween(0, 4, 5, steps), (long) k);
    }
    edges.of(23, "Returns the number of rows; with no steps, 1 if both are the same.");
    edges.answers(ONE, "of one, no steps", z -> z.rowsBetween(0, 0, 0, 0), 1L);
    edges.answers(CHAIN, "no steps, below", z -> z.rowsBetween(0, 0, 11, 0), 0L);
    edges.answers(CHAIN, "one step, below", z -> z.rowsBetween(0, 0, 11, 1), 1L);
    edges.answers(CHAIN, "two steps, all between", z -> z.rowsBetween(0, 0, 11, 2), 12L);
    edges.answers(CHAIN, "as many as can be", z -> z.rowsBetween(0, 0, 11, 9), 75582L);
  }

  private static void euler() {
    edges.noOrder(24, Edges.NO_ORDER, (z, order) -> z.euler(order));
    edges.of(24, "Returns the Euler number.");
    edges.answers(ONE, "of one", z -> z.euler(0), 0L);
    edges.answers(CHAIN, "of a chain", z -> z.euler(0), 0L);
    edges.answers(TWELVE, "of an antichain", z -> z.euler(0), 11L);
    Edges.Build sphere = z -> {
      z.order(2);
      z.sum(0, 0, true);
      z.sum(1, 0, true);
      z.sum(2, 2, true);
    };
    edges.answers(sphere, "of a sphere of twelve", z -> z.euler(3), -1L);
    Edges.Build wide = z -> {
      z.order(4);
      z.sum(0, 0, true);
      z.sum(1, 0, true);
    };
    edges.answers(wide, "three by three by three", z -> z.euler(2), 27L);
  }

  private static void characteristic() {
    edges.noOrder(25, Edges.NO_ORDER, (z, order) -> z.characteristic(order, 0));
    edges.range(25, "- `x`: from -9 to 9", Edges.SOME, -9, 9, (z, n) -> z.characteristic(2, n));
    edges.of(25,
        "Throws `UnsupportedOperationException` if it is not ranked, or has no least element");
    Edges.Build pentagon = z -> Orders.pentagon(z);
    edges.refuses(pentagon, "not ranked, with a least one", Check.UNSUPPORTED,
        z -> z.characteristic(0, 1));
    edges.refuses(TWELVE, "ranked, without a least one", Check.UNSUPPORTED,
        z -> z.characteristic(0, 1));
    Edges.Build neither = z -> Orders.of(z, 4, "01 12 32");
    edges.refuses(neither, "neither", Check.UNSUPPORTED, z -> z.characteristic(0, 0));
    Edges.Build least = z -> Orders.of(z, 3, "02 12");
    edges.refuses(least, "a greatest one alone", Check.UNSUPPORTED,
        z -> z.characteristic(0, 9));
    edges.first(TWELVE, "no least one, 10", Check.ARGUMENT, z -> z.characteristic(0, 10));
    edges.first(pentagon, "not ranked, -10", Check.ARGUMENT, z -> z.characteristic(0, -10));
    edges.first(TWELVE, "no order, 10", Check.INDEX, z -> z.characteristic(1, 10));
    edges.first(TWELVE, "no order, -10", Check.INDEX, z -> z.characteristic(-1, -10));
    edges.of(25, "Returns the characteristic value.");
    for (int k = -9; k <= 9; k++) {
      int x = k;
      edges.answers(ONE, "of one", z -> z.characteristic(0, x), 1L);
      long due = k - 1;
      for (int i = 0; i < 10; i++) {
        due *= k;
      }
      edges.answers(CHAIN, "of a chain, beyond an int", z -> z.characteristic(0, x), due);
    }
    Edges.Build fan = z -> Orders.of(z, 12, "b0 b1 b2 b3 b4 b5 b6 b7 b8 b9 ba");
    edges.answers(fan, "at 0, the power 0 of 0", z -> z.characteristic(0, 0), -11L);
    edges.answers(fan, "at 9", z -> z.characteristic(0, 9), -2L);
    edges.answers(fan, "at -9", z -> z.characteristic(0, -9), -20L);
  }
}
