/** Promises 26 to 34: rows, questions, the dimension and orders of intervals. */
public final class RowsTest {
  private static final Check check = new Check("RowsTest");

  public static void main(String[] args) {
    rows();
    rowAt();
    promote();
    evacuate();
    jumps();
    balance();
    questions();
    dimension();
    isOfIntervals();
    check.end();
  }

  private static String row(Zetaposet z, int order, long row) {
    StringBuilder text = new StringBuilder();
    for (int place = 0; place < z.size(order); place++) {
      text.append(Character.forDigit(z.rowAt(order, row, place), 36));
    }
    return text.toString();
  }

  private static void rows() {
    Zetaposet z = new Zetaposet();
    z.order(12);
    check.is("26: antichain", z.rows(0), 479001600L);
    Orders.chain(z, 12);
    check.is("26: chain", z.rows(1), 1L);
    z.subsets(3);
    check.is("26: subsets", z.rows(2), 48L);
    Orders.of(z, 12, "02 24 46 68 8a 13 35 57 79 9b");
    check.is("26: two chains of 6", z.rows(3), 924L);
    z.order(1);
    check.is("26: one", z.rows(4), 1L);
    Orders.of(z, 3, "20");
    check.is("26: numbered downwards", z.rows(5), 3L);
    check.fails("26: order", Check.INDEX, () -> z.rows(6));
    check.fails("26: negative", Check.INDEX, () -> z.rows(-1));
  }

  private static void rowAt() {
    Zetaposet z = new Zetaposet();
    Orders.of(z, 4, "20 13");
    String[] due = {"1203", "1230", "1320", "2013", "2103", "2130"};
    check.is("27: how many", z.rows(0), 6L);
    for (int i = 0; i < 6; i++) {
      check.is("27: row " + i, row(z, 0, i), due[i]);
    }
    z.order(12);
    check.is("27: the first", row(z, 1, 0), "0123456789ab");
    check.is("27: the last", row(z, 1, 479001599L), "ba9876543210");
    check.is("27: one between", row(z, 1, 39916800L * 3 + 1), "30124567" + "89ba");
    check.fails("27: no row", Check.ARGUMENT, () -> z.rowAt(0, 6, 0));
    check.fails("27: negative row", Check.ARGUMENT, () -> z.rowAt(0, -1, 0));
    check.fails("27: a row by its low bits", Check.ARGUMENT, () -> z.rowAt(0, 1L << 32, 0));
    check.fails("27: one more than the last", Check.ARGUMENT, () -> z.rowAt(1, 479001600L, 0));
    check.fails("27: place", Check.INDEX, () -> z.rowAt(0, 0, 4));
    check.fails("27: negative place", Check.INDEX, () -> z.rowAt(0, 0, -1));
    check.fails("27: the place first", Check.INDEX, () -> z.rowAt(0, 6, 4));
    check.fails("27: order", Check.INDEX, () -> z.rowAt(2, 0, 0));
  }

  private static void promote() {
    Zetaposet z = new Zetaposet();
    z.order(3);
    check.is("28: 012 to 120", z.promote(0, 0), 3L);
    check.is("28: 210 to 102", z.promote(0, 5), 2L);
    Orders.of(z, 5, "01 12 03 34");
    // 01234: the chain 0 1 2 takes the places of 1, 2 and behind all: 0 at 0, 1 at 1, 2 at 4.
    check.is("28: which one", row(z, 1, 0), "01234");
    check.is("28: the first that covers", row(z, 1, z.promote(1, 0)), "01342");
    check.is("28: the last", row(z, 1, 5), "03412");
    check.is("28: the other way", row(z, 1, z.promote(1, 5)), "03124");
    // 02134: 0, 2, 3 is the chain though 1 stands between.
    Orders.of(z, 5, "02 12 23 14");
    check.is("28: it", row(z, 2, 0), "01234");
    check.is("28: by covers alone", row(z, 2, z.promote(2, 0)), "10243");
    Orders.chain(z, 12);
    check.is("28: chain", z.promote(3, 0), 0L);
    z.order(12);
    check.is("28: the last of many", row(z, 4, z.promote(4, 479001599L)), "a9876543210b");
    check.fails("28: no row", Check.ARGUMENT, () -> z.promote(0, 6));
    check.fails("28: negative", Check.ARGUMENT, () -> z.promote(0, -1));
    check.fails("28: order", Check.INDEX, () -> z.promote(5, 0));
    check.fails("28: the order first", Check.INDEX, () -> z.promote(-1, -1));
  }

  private static void evacuate() {
    Zetaposet z = new Zetaposet();
    z.order(4);
    // 0123 to 1230, then 2310, 3210: the reverse.
    check.is("29: antichain", row(z, 0, z.evacuate(0, 0)), "3210");
    Orders.of(z, 5, "01 12 34");
    for (long row = 0; row < z.rows(1); row++) {
      long there = z.evacuate(1, row);
      check.is("29: twice is nothing", z.evacuate(1, there), row);
    }
    // 01234: to 01342, then 0134 to 0341, then 034 stays, as do 03 and 0.
    Orders.of(z, 5, "01 12 03 34");
    check.is("29: step by step", row(z, 2, z.evacuate(2, 0)), "03412");
    Orders.chain(z, 12);
    check.is("29: chain", z.evacuate(3, 0), 0L);
    z.order(1);
    check.is("29: one", z.evacuate(4, 0), 0L);
    check.fails("29: no row", Check.ARGUMENT, () -> z.evacuate(0, 24));
    check.fails("29: negative", Check.ARGUMENT, () -> z.evacuate(0, Long.MIN_VALUE));
    check.fails("29: order", Check.INDEX, () -> z.evacuate(5, 0));
    check.fails("29: the order first", Check.INDEX, () -> z.evacuate(-1, -1));
  }

  private static void jumps() {
    Zetaposet z = new Zetaposet();
    z.order(12);
    check.is("30: antichain", z.jumps(0), 11);
    Orders.chain(z, 12);
    check.is("30: chain", z.jumps(1), 0);
    Orders.of(z, 6, "02 24 13 35");
    check.is("30: two chains", z.jumps(2), 1);
    z.subsets(3);
    check.is("30: subsets", z.jumps(3), 3);
    Orders.of(z, 4, "02 12 13");
    check.is("30: an N", z.jumps(4), 1);
    Orders.of(z, 4, "02 03 12 13");
    check.is("30: all above both", z.jumps(5), 2);
    check.fails("30: order", Check.INDEX, () -> z.jumps(6));
    check.fails("30: negative", Check.INDEX, () -> z.jumps(-1));
  }

  private static void balance() {
    Zetaposet z = new Zetaposet();
    z.order(12);
    check.is("31: antichain", z.balance(0), 239500800L);
    Orders.of(z, 3, "01");
    check.is("31: a third", z.balance(1), 1L);
    Orders.of(z, 4, "01 23");
    check.is("31: two chains", z.balance(2), 3L);
    Orders.of(z, 4, "02 12 13");
    check.is("31: an N", z.balance(3), 2L);
    Orders.of(z, 5, "01 12 23");
    check.is("31: the best pair, not the first", z.balance(4), 2L);
    Orders.chain(z, 3);
    check.fails("31: chain", Check.NONE, () -> z.balance(5));
    z.order(1);
    check.fails("31: no pair at all", Check.NONE, () -> z.balance(6));
    check.fails("31: order", Check.INDEX, () -> z.balance(7));
    check.fails("31: negative", Check.INDEX, () -> z.balance(-1));
  }

  private static void questions() {
    Zetaposet z = new Zetaposet();
    Orders.chain(z, 12);
    check.is("32: chain", z.questions(0), 0);
    z.order(4);
    check.is("32: four sorted", z.questions(1), 5);
    Orders.of(z, 3, "01");
    check.is("32: three rows", z.questions(2), 2);
    Orders.of(z, 12, "01 12 23 34 45 56 67 78 89 9a");
    check.is("32: one put into eleven", z.questions(3), 4);
    Orders.of(z, 6, "01 12 34 45");
    check.is("32: two chains of 3 merged", z.questions(4), 5);
    z.order(5);
    check.fails("32: 120 rows", Check.UNSUPPORTED, () -> z.questions(5));
    Orders.of(z, 5, "01 23");
    check.is("32: 30 rows", z.rows(6), 30L);
    check.is("32: just 30", z.questions(6), 5);
    Orders.of(z, 7, "01 12 34 45 56");
    check.is("32: 35 rows", z.rows(7), 35L);
    check.fails("32: too many", Check.UNSUPPORTED, () -> z.questions(7));
    z.order(1);
    check.is("32: one", z.questions(8), 0);
    z.order(2);
    check.is("32: two", z.questions(9), 1);
    check.fails("32: order", Check.INDEX, () -> z.questions(10));
    check.fails("32: negative", Check.INDEX, () -> z.questions(-1));
    z.clear();
    // Of these, no question halves all that are left again and again.
    Orders.of(z, 6, "01 03 12 14 25 34 35");
    check.is("32: 8 rows", z.rows(0), 8L);
    check.is("32: one more than for 8 others", z.questions(0), 4);
    Orders.of(z, 7, "01 12 16 25 34 45 46");
    check.is("32: 26 rows", z.rows(1), 26L);
    check.is("32: one more than for 26 others", z.questions(1), 6);
    Orders.of(z, 6, "01 23 45");
    z.sum(2, 2, true);
    check.fails("32: far too many", Check.UNSUPPORTED, () -> z.questions(3));
  }

  private static void dimension() {
    Zetaposet z = new Zetaposet();
    Orders.chain(z, 6);
    check.is("33: chain", z.dimension(0), 1);
    z.order(1);
    check.is("33: one", z.dimension(1), 1);
    z.order(2);
    check.is("33: two", z.dimension(2), 2);
    z.order(6);
    check.is("33: antichain", z.dimension(3), 2);
    Orders.of(z, 6, "04 05 13 15 23 24");
    check.is("33: a crown", z.dimension(4), 3);
    Orders.pentagon(z);
    check.is("33: a pentagon", z.dimension(5), 2);
    z.clear();
    Orders.of(z, 6, "02 04 13 15 23 45");
    check.is("33: three, of another kind", z.dimension(0), 3);
    Orders.of(z, 6, "04 13 15 23 24");
    check.is("33: a crown without a pair", z.dimension(1), 2);
    for (int i = 2; i < 6; i++) {
      z.order(1);
    }
    z.order(7);
    check.fails("33: seven", Check.UNSUPPORTED, () -> z.dimension(6));
    Orders.chain(z, 12);
    check.fails("33: a long chain", Check.UNSUPPORTED, () -> z.dimension(7));
    check.fails("33: order", Check.INDEX, () -> z.dimension(8));
    check.fails("33: negative", Check.INDEX, () -> z.dimension(-1));
  }

  private static void isOfIntervals() {
    Zetaposet z = new Zetaposet();
    Orders.of(z, 4, "01 23");
    check.isFalse("34: two and two", z.isOfIntervals(0, false));
    check.isFalse("34: two and two, like", z.isOfIntervals(0, true));
    Orders.of(z, 4, "01 12");
    check.isTrue("34: three and one", z.isOfIntervals(1, false));
    check.isFalse("34: three and one, like", z.isOfIntervals(1, true));
    Orders.of(z, 4, "02 12 13");
    check.isTrue("34: an N", z.isOfIntervals(2, false));
    check.isTrue("34: an N, like", z.isOfIntervals(2, true));
    z.order(12);
    check.isTrue("34: antichain", z.isOfIntervals(3, true));
    Orders.of(z, 5, "01 12 23 14");
    check.isTrue("34: one beside a part of it", z.isOfIntervals(4, true));
    Orders.of(z, 6, "01 12 23 45 04");
    check.isFalse("34: with more around", z.isOfIntervals(5, false));
    Orders.of(z, 4, "10 32");
    check.isFalse("34: downwards", z.isOfIntervals(6, false));
    Orders.of(z, 4, "21 10");
    check.isFalse("34: three downwards", z.isOfIntervals(7, true));
    Orders.of(z, 4, "32 21");
    check.isFalse("34: three beside the first", z.isOfIntervals(8, true));
    check.fails("34: order", Check.INDEX, () -> z.isOfIntervals(9, true));
    check.fails("34: negative", Check.INDEX, () -> z.isOfIntervals(-1, false));
  }
}
