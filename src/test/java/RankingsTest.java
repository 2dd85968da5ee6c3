/** Promises 69 to 73: rankings, shares and soundness. */
public final class RankingsTest {
  private static final Check check = new Check("RankingsTest");

  public static void main(String[] args) {
    prefer();
    ranking();
    relatedShare();
    meanIdeal();
    isSound();
    check.end();
  }

  private static void prefer() {
    Zetaposet z = new Zetaposet();
    check.is("69: none", z.prefer(0, 5, 999), 0);
    check.is("69: then", z.prefer(0, 5, 0), 999);
    check.is("69: none again", z.prefer(0, 5, 3), 0);
    check.is("69: the other way", z.prefer(5, 0, 4), 0);
    check.fails("69: one", Check.ARGUMENT, () -> z.prefer(6, 0, 1));
    check.fails("69: negative one", Check.ARGUMENT, () -> z.prefer(-1, 0, 1));
    check.fails("69: other", Check.ARGUMENT, () -> z.prefer(0, 6, 1));
    check.fails("69: negative other", Check.ARGUMENT, () -> z.prefer(0, -1, 1));
    check.fails("69: the same", Check.ARGUMENT, () -> z.prefer(3, 3, 1));
    check.fails("69: too many", Check.ARGUMENT, () -> z.prefer(0, 5, 1000));
    check.fails("69: negative", Check.ARGUMENT, () -> z.prefer(0, 5, -1));
    check.is("69: nothing changed", z.prefer(0, 5, 3), 3);
  }

  private static String ranked(Zetaposet z, int things) {
    StringBuilder text = new StringBuilder();
    for (int place = 0; place < things; place++) {
      text.append(z.ranking(things, place));
    }
    return text.append(':').append(z.ranking(things, -1)).toString();
  }

  private static void ranking() {
    Zetaposet z = new Zetaposet();
    check.is("70: none prefers, so the first row", ranked(z, 6), "012345:0");
    z.prefer(0, 1, 3);
    z.prefer(1, 0, 5);
    z.prefer(1, 2, 4);
    z.prefer(2, 0, 2);
    check.is("70: three things", ranked(z, 3), "120:3");
    check.is("70: the lowest two", ranked(z, 2), "10:3");
    check.is("70: the lowest one", ranked(z, 1), "0:0");
    check.is("70: and those that none speaks of", ranked(z, 5), "12034:3");
    z.prefer(1, 0, 3);
    z.prefer(2, 0, 0);
    check.is("70: of several the first one", ranked(z, 3), "012:3");
    // A ring, 0 before 1 before 2 before 0: the weakest pair is given up.
    z.prefer(0, 1, 999);
    z.prefer(1, 0, 0);
    z.prefer(1, 2, 999);
    z.prefer(2, 0, 998);
    check.is("70: a ring", ranked(z, 3), "012:998");
    z.prefer(0, 1, 997);
    check.is("70: the ring elsewhere", ranked(z, 3), "120:997");
    z.prefer(5, 0, 1);
    check.is("70: all", ranked(z, 6), "123450:997");
    check.is("70: the lowest three after all", ranked(z, 3), "120:997");
    Zetaposet y = new Zetaposet();
    y.prefer(3, 4, 5);
    y.prefer(4, 3, 6);
    check.is("70: five", ranked(y, 5), "01243:5");
    check.is("70: four after five", ranked(y, 4), "0123:0");
    check.fails("70: none", Check.ARGUMENT, () -> z.ranking(0, 0));
    check.fails("70: seven", Check.ARGUMENT, () -> z.ranking(7, 0));
    check.fails("70: place", Check.INDEX, () -> z.ranking(3, 3));
    check.fails("70: negative place", Check.INDEX, () -> z.ranking(3, -2));
    check.fails("70: the number first", Check.ARGUMENT, () -> z.ranking(0, -2));
  }

  private static void relatedShare() {
    Zetaposet z = new Zetaposet();
    z.subsets(3);
    check.is("71: subsets", z.relatedShare(0), 19f / 28f);
    Orders.chain(z, 12);
    check.is("71: chain", z.relatedShare(1), 1f);
    z.order(2);
    check.is("71: none", z.relatedShare(2), 0f);
    Orders.of(z, 3, "20");
    check.is("71: a third", z.relatedShare(3), 1f / 3f);
    z.order(1);
    check.fails("71: one", ArithmeticException.class, () -> z.relatedShare(4));
    check.fails("71: order", Check.INDEX, () -> z.relatedShare(5));
    check.fails("71: negative", Check.INDEX, () -> z.relatedShare(-1));
  }

  private static void meanIdeal() {
    Zetaposet z = new Zetaposet();
    Orders.chain(z, 3);
    check.is("72: chain", z.meanIdeal(0), 1.5);
    z.order(12);
    check.is("72: antichain", z.meanIdeal(1), 6.0);
    Orders.of(z, 3, "01 02");
    // none, 0, 01, 02, 012
    check.is("72: two above one", z.meanIdeal(2), 8.0 / 5.0);
    z.order(1);
    check.is("72: one", z.meanIdeal(3), 0.5);
    check.fails("72: order", Check.INDEX, () -> z.meanIdeal(4));
    check.fails("72: negative", Check.INDEX, () -> z.meanIdeal(-1));
  }

  private static void isSound() {
    Zetaposet z = new Zetaposet();
    check.isTrue("73: new", z.isSound());
    Orders.pentagon(z);
    Orders.diamond(z);
    z.subsets(3);
    z.divisors(60);
    z.order(12);
    Orders.chain(z, 12);
    Orders.of(z, 5, "01 23");
    z.dual(2);
    z.intervals(6);
    z.order(1);
    check.isTrue("73: ten orders", z.isSound());
    z.table(4, 6);
    z.cross(0, 1, true);
    z.cross(1, 1, true);
    z.cross(1, 3, true);
    z.cross(3, 5, true);
    check.isTrue("73: a table", z.isSound());
    z.explore(4);
    z.refuse(3);
    check.isTrue("73: exploring", z.isSound());
    check.is("73: nothing changed", z.question(false), 3);
    check.is("73: ten still", z.clear(), 10);
  }
}
