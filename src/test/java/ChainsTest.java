/** Promises 17 to 25: chains and antichains, and sums over intervals. */
public final class ChainsTest {
  private static final Check check = new Check("ChainsTest");

  public static void main(String[] args) {
    width();
    inChains();
    chains();
    isSymmetric();
    moebius();
    rowsBetween();
    euler();
    characteristic();
    check.end();
  }

  private static void width() {
    Zetaposet z = new Zetaposet();
    z.subsets(3);
    check.is("17: subsets of 3", z.width(0), 3);
    check.is("18: of two the lower number", z.antichain(0), Orders.set(1, 2, 4));
    Orders.chain(z, 12);
    check.is("17: chain", z.width(1), 1);
    check.is("18: chain", z.antichain(1), 1);
    z.order(12);
    check.is("17: antichain", z.width(2), 12);
    check.is("18: antichain", z.antichain(2), 4095);
    Orders.of(z, 5, "40 41 42 43");
    check.is("17: a greatest one", z.width(3), 4);
    check.is("18: the four", z.antichain(3), 15);
    Orders.of(z, 4, "20 21 30 31");
    check.is("18: {0,1}, not {2,3}", z.antichain(4), 3);
    Orders.of(z, 4, "01 03 21 23");
    check.is("18: {0,2}, not {1,3}", z.antichain(5), 5);
    z.order(1);
    check.is("17: one", z.width(6), 1);
    Orders.of(z, 4, "10 20 30");
    check.is("18: without the first", z.antichain(7), Orders.set(1, 2, 3));
    check.fails("18: order", Check.INDEX, () -> z.antichain(8));
    check.fails("18: negative", Check.INDEX, () -> z.antichain(-1));
    check.fails("17: order", Check.INDEX, () -> z.width(8));
    check.fails("17: negative", Check.INDEX, () -> z.width(-1));
  }

  private static void inChains() {
    Zetaposet z = new Zetaposet();
    z.subsets(3);
    check.is("19: none", z.inChains(0, 0), 0);
    check.is("19: one", z.inChains(0, 1), 4);
    check.is("19: two", z.inChains(0, 2), 6);
    check.is("19: three", z.inChains(0, 3), 8);
    check.is("19: or fewer", z.inChains(0, 12), 8);
    // The longest chain, 0 1 2 3, and one more take 5; two others take all 6.
    Orders.of(z, 6, "01 12 23 14 52");
    check.is("19: one alone", z.inChains(1, 1), 4);
    check.is("19: two that are not the longest", z.inChains(1, 2), 6);
    z.order(12);
    check.is("19: antichain", z.inChains(2, 5), 5);
    check.is("19: all of it", z.inChains(2, 12), 12);
    check.fails("19: 13", Check.ARGUMENT, () -> z.inChains(0, 13));
    check.fails("19: negative", Check.ARGUMENT, () -> z.inChains(0, -1));
    check.fails("19: order", Check.INDEX, () -> z.inChains(3, 1));
    check.fails("19: the order first", Check.INDEX, () -> z.inChains(-1, 13));
  }

  private static void chains() {
    Zetaposet z = new Zetaposet();
    Orders.chain(z, 12);
    check.is("20: chain", z.chains(0), 4095);
    z.order(7);
    check.is("20: antichain", z.chains(1), 7);
    z.subsets(3);
    // Chains of the subsets of 3: 4 times 13 begin at none and end at all or not, 13 times 4 - 1.
    check.is("20: subsets", z.chains(2), 51);
    Orders.of(z, 3, "20 01");
    check.is("20: not numbered upwards", z.chains(3), 7);
    check.fails("20: order", Check.INDEX, () -> z.chains(4));
    check.fails("20: negative", Check.INDEX, () -> z.chains(-1));
  }

  private static void isSymmetric() {
    Zetaposet z = new Zetaposet();
    z.divisors(60);
    check.isTrue("21: divisors", z.isSymmetric(0));
    Orders.chain(z, 5);
    check.isTrue("21: chain", z.isSymmetric(1));
    z.order(4);
    check.isTrue("21: antichain", z.isSymmetric(2));
    Orders.of(z, 3, "01");
    check.isFalse("21: a lone one too low", z.isSymmetric(3));
    Orders.pentagon(z);
    check.isFalse("21: not ranked", z.isSymmetric(4));
    Orders.of(z, 3, "01 02");
    check.isFalse("21: two above one", z.isSymmetric(5));
    // As many at each rank, but 0 and 1 are both below 3 alone.
    Orders.of(z, 6, "03 13 23 24 25");
    check.isFalse("21: no matching", z.isSymmetric(6));
    // 0 must not take 3, which is all that is left for 1.
    Orders.of(z, 4, "02 03 13");
    check.isTrue("21: the second way", z.isSymmetric(7));
    Orders.diamond(z);
    check.isTrue("21: two at the middle alone", z.isSymmetric(8));
    Orders.of(z, 4, "20 30 31");
    check.isTrue("21: downwards", z.isSymmetric(9));
    check.fails("21: order", Check.INDEX, () -> z.isSymmetric(10));
    check.fails("21: negative", Check.INDEX, () -> z.isSymmetric(-1));
  }

  private static void moebius() {
    Zetaposet z = new Zetaposet();
    z.divisors(60);
    check.is("22: the same", z.moebius(0, 3, 3), 1L);
    check.is("22: of 1 and 60", z.moebius(0, 0, 11), 0L);
    // 1 2 3 4 5 6 10 12 15 20 30 60
    check.is("22: of 1 and 30", z.moebius(0, 0, 10), -1L);
    check.is("22: of 2 and 60", z.moebius(0, 1, 11), -1L);
    check.is("22: of 2 and 20", z.moebius(0, 1, 9), 1L);
    check.is("22: of 1 and 2", z.moebius(0, 0, 1), -1L);
    check.is("22: not at most", z.moebius(0, 1, 2), 0L);
    check.is("22: above", z.moebius(0, 11, 0), 0L);
    Orders.of(z, 12, "01 02 03 04 05 06 07 08 09 0a 1b 2b 3b 4b 5b 6b 7b 8b 9b ab");
    check.is("22: ten between", z.moebius(1, 0, 11), 9L);
    check.fails("22: order", Check.INDEX, () -> z.moebius(2, 0, 0));
    check.fails("22: low", Check.INDEX, () -> z.moebius(0, 12, 0));
    check.fails("22: high", Check.INDEX, () -> z.moebius(0, 0, -1));
  }

  private static void rowsBetween() {
    Zetaposet z = new Zetaposet();
    z.subsets(3);
    check.is("23: none, the same", z.rowsBetween(0, 5, 5, 0), 1L);
    check.is("23: none, another", z.rowsBetween(0, 0, 7, 0), 0L);
    check.is("23: one", z.rowsBetween(0, 0, 7, 1), 1L);
    check.is("23: one, not at most", z.rowsBetween(0, 1, 2, 1), 0L);
    check.is("23: two", z.rowsBetween(0, 0, 7, 2), 8L);
    check.is("23: nine to the third", z.rowsBetween(0, 0, 7, 9), 729L);
    check.is("23: the same", z.rowsBetween(0, 3, 3, 9), 1L);
    check.is("23: downwards", z.rowsBetween(0, 7, 0, 4), 0L);
    Orders.chain(z, 12);
    check.is("23: 19 over 8", z.rowsBetween(1, 0, 11, 9), 75582L);
    check.fails("23: ten", Check.ARGUMENT, () -> z.rowsBetween(0, 0, 0, 10));
    check.fails("23: negative", Check.ARGUMENT, () -> z.rowsBetween(0, 0, 0, -1));
    check.fails("23: order", Check.INDEX, () -> z.rowsBetween(2, 0, 0, 1));
    check.fails("23: low", Check.INDEX, () -> z.rowsBetween(0, -1, 0, 1));
    check.fails("23: high", Check.INDEX, () -> z.rowsBetween(0, 0, 8, 10));
  }

  private static void euler() {
    Zetaposet z = new Zetaposet();
    Orders.chain(z, 6);
    check.is("24: chain", z.euler(0), 0L);
    z.order(5);
    check.is("24: antichain", z.euler(1), 4L);
    Orders.of(z, 4, "02 03 12 13");
    check.is("24: a circle", z.euler(2), -1L);
    Orders.of(z, 6, "02 03 12 13 24 25 34 35");
    check.is("24: a sphere", z.euler(3), 1L);
    z.order(1);
    check.is("24: a point", z.euler(4), 0L);
    check.fails("24: order", Check.INDEX, () -> z.euler(5));
    check.fails("24: negative", Check.INDEX, () -> z.euler(-1));
  }

  private static void characteristic() {
    Zetaposet z = new Zetaposet();
    z.subsets(3);
    check.is("25: (x-1)^3 at 4", z.characteristic(0, 4), 27L);
    check.is("25: at 0", z.characteristic(0, 0), -1L);
    check.is("25: at -9", z.characteristic(0, -9), -1000L);
    check.is("25: at 9", z.characteristic(0, 9), 512L);
    Orders.diamond(z);
    check.is("25: x^2-3x+2 at 5", z.characteristic(1, 5), 12L);
    Orders.of(z, 3, "01 02");
    check.is("25: no greatest one, x-2 at 0", z.characteristic(2, 0), -2L);
    z.order(1);
    check.is("25: one, 0 to the power of 0", z.characteristic(3, 0), 1L);
    Orders.chain(z, 12);
    check.is("25: x^11-x^10 at -9", z.characteristic(4, -9), -34867844010L);
    check.is("25: (x-1)^3 at 1", z.characteristic(0, 1), 0L);
    Orders.pentagon(z);
    check.fails("25: not ranked", Check.UNSUPPORTED, () -> z.characteristic(5, 1));
    z.order(2);
    check.fails("25: no least one", Check.UNSUPPORTED, () -> z.characteristic(6, 1));
    check.fails("25: 10", Check.ARGUMENT, () -> z.characteristic(0, 10));
    check.fails("25: -10", Check.ARGUMENT, () -> z.characteristic(0, -10));
    check.fails("25: the range first", Check.ARGUMENT, () -> z.characteristic(6, 10));
    check.fails("25: order", Check.INDEX, () -> z.characteristic(7, 10));
  }
}
