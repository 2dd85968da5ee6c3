/** The edges of promises 69 to 73: rankings, shares and soundness. */
public final class RankingEdgesTest {
  private static final Edges edges = new Edges("RankingEdgesTest", 69, 73);

  private static final Edges.Build ONE = z -> z.order(1);
  private static final Edges.Build TWELVE = z -> z.order(12);
  private static final Edges.Build CHAIN = z -> Orders.chain(z, 12);
  /** All prefer otherwise than by number. */
  private static final Edges.Build TURNED = z -> {
    for (int one = 0; one < 6; one++) {
      for (int other = 0; other < one; other++) {
        z.prefer(one, other, 999);
      }
    }
  };
  /** As many prefer the one as the other, for all. */
  private static final Edges.Build EVEN = z -> {
    for (int one = 0; one < 6; one++) {
      for (int other = 0; other < 6; other++) {
        if (one != other) {
          z.prefer(one, other, 999);
        }
      }
    }
  };

  public static void main(String[] args) {
    prefer();
    ranking();
    relatedShare();
    meanIdeal();
    isSound();
    edges.end();
  }

  private static void prefer() {
    String out = "Throws `IllegalArgumentException` if there is no such thing, "
        + "both are the same, or the number is out of range";
    edges.of(69, "- `one`: a thing, 0 to 5");
    for (int one = 0; one < 6; one++) {
      for (int other = 0; other < 6; other++) {
        int a = one;
        int b = other;
        if (a != b) {
          edges.answers(EVEN, "one", z -> z.prefer(a, b, 0), 999);
          edges.answers(TURNED, "each pair for itself", z -> z.prefer(a, b, 1), a > b ? 999 : 0);
        }
      }
    }
    edges.range(69, "- `many`: how many, 0 to 999", out, EVEN, 0, 999,
        (z, n) -> z.prefer(5, 0, n));
    edges.of(69, out);
    int[] never = {
      6, 7, 12, 31, 32, 37, 64, 256, -1, -5, -6, -31, Integer.MIN_VALUE, Integer.MIN_VALUE + 1,
      Integer.MAX_VALUE
    };
    for (int n : never) {
      edges.refuses(EVEN, "one " + n, Check.ARGUMENT, z -> z.prefer(n, 0, 1));
      edges.refuses(EVEN, "other " + n, Check.ARGUMENT, z -> z.prefer(0, n, 1));
      edges.refuses(EVEN, "the other, of 1 " + n, Check.ARGUMENT, z -> z.prefer(1, n, 1));
      edges.refuses(EVEN, "both " + n, Check.ARGUMENT, z -> z.prefer(n, n, 1));
    }
    for (int same = 0; same < 6; same++) {
      int one = same;
      edges.refuses(EVEN, "the same", Check.ARGUMENT, z -> z.prefer(one, one, 0));
    }
    edges.of(69, "Returns how many it were.");
    edges.answers(Edges.EMPTY, "none", z -> z.prefer(0, 1, 999), 0);
    edges.answers(EVEN, "the most", z -> z.prefer(0, 1, 0), 999);
    edges.answers(z -> {
      EVEN.of(z);
      z.prefer(0, 1, 0);
    }, "none again", z -> z.prefer(0, 1, 5), 0);
  }

  private static void ranking() {
    for (int at = -1; at <= 0; at++) {
      int place = at;
      edges.range(70, "- `things`: how many things are ranked, 1 to 6, the lowest ones", EVEN, 1, 6,
          (z, n) -> z.ranking(n, place));
    }
    edges.of(70, "Throws `IndexOutOfBoundsException` if there is no such place");
    for (int n = 1; n <= 6; n++) {
      int things = n;
      int[] never = {
        n, n + 1, 7, 31, 32, 64, 256, -2, -3, -32, -33, Integer.MIN_VALUE, Integer.MIN_VALUE + 1,
        Integer.MAX_VALUE
      };
      for (int place : never) {
        edges.refuses(EVEN, "of " + n + ", " + place, Check.INDEX, z -> z.ranking(things, place));
      }
    }
    for (int things : new int[] {0, 7, -1, Integer.MIN_VALUE, Integer.MAX_VALUE}) {
      for (int place : new int[] {-2, 0, 6, 7, Integer.MIN_VALUE, Integer.MAX_VALUE}) {
        edges.first(EVEN, "neither number nor place", Check.ARGUMENT,
            z -> z.ranking(things, place));
      }
    }
    edges.of(70, "- `place`: the place, from 0; or -1 for how many prefer otherwise in all");
    for (int n = 1; n <= 6; n++) {
      int things = n;
      for (int p = 0; p < n; p++) {
        int place = p;
        edges.answers(Edges.EMPTY, "the first row", z -> z.ranking(things, place), p);
        edges.answers(EVEN, "of all rows the first", z -> z.ranking(things, place), p);
        edges.answers(TURNED, "the last row", z -> z.ranking(things, place), n - 1 - p);
      }
      edges.answers(Edges.EMPTY, "none prefers", z -> z.ranking(things, -1), 0);
      edges.answers(TURNED, "none otherwise", z -> z.ranking(things, -1), 0);
      edges.answers(EVEN, "all pairs", z -> z.ranking(things, -1), 999 * n * (n - 1) / 2);
    }
  }

  private static void relatedShare() {
    edges.noOrder(71, Edges.NO_ORDER, (z, order) -> z.relatedShare(order));
    edges.of(71, "Throws `ArithmeticException` if it has one element");
    edges.refuses(ONE, "of one", ArithmeticException.class, z -> z.relatedShare(0));
    edges.refuses(Edges.SOME, "of another one", ArithmeticException.class,
        z -> z.relatedShare(4));
    edges.of(71,
        "Returns their number divided by that of all pairs, both converted to float.");
    edges.answers(z -> z.order(2), "none of one pair", z -> z.relatedShare(0), 0f);
    edges.answers(z -> Orders.of(z, 2, "10"), "all of one pair", z -> z.relatedShare(0), 1f);
    edges.answers(TWELVE, "none of 66", z -> z.relatedShare(0), 0f);
    edges.answers(CHAIN, "66 of 66", z -> z.relatedShare(0), 1f);
    Edges.Build one = z -> Orders.of(z, 12, "ab");
    edges.answers(one, "1 of 66, as floats are divided", z -> z.relatedShare(0), 1f / 66f);
  }

  private static void meanIdeal() {
    edges.noOrder(72, Edges.NO_ORDER, (z, order) -> z.meanIdeal(order));
    edges.of(72, "Returns the sum divided by their number, both converted to double.");
    edges.answers(ONE, "of one", z -> z.meanIdeal(0), 0.5);
    edges.answers(TWELVE, "of an antichain", z -> z.meanIdeal(0), 6.0);
    edges.answers(CHAIN, "of a chain", z -> z.meanIdeal(0), 6.0);
    Edges.Build roof = z -> Orders.of(z, 12, "0b 1b 2b 3b 4b 5b 6b 7b 8b 9b ab");
    edges.answers(roof, "one above all", z -> z.meanIdeal(0), (11.0 * 1024 + 12) / 2049);
    Edges.Build three = z -> Orders.of(z, 3, "01 02");
    edges.answers(three, "no whole number", z -> z.meanIdeal(0), 8.0 / 5.0);
  }

  private static void isSound() {
    edges.of(73, "Returns whether so.");
    edges.answers(Edges.EMPTY, "no orders", z -> z.isSound(), true);
    edges.answers(Edges.SOME, "some", z -> z.isSound(), true);
    edges.answers(Edges.FULL, "ten", z -> z.isSound(), true);
    edges.answers(Edges.CLEARED, "none any more", z -> z.isSound(), true);
    edges.answers(CHAIN, "a chain", z -> z.isSound(), true);
    edges.answers(TWELVE, "more rows than are looked at", z -> z.isSound(), true);
    edges.answers(z -> Orders.of(z, 5, "12 13 14"), "30 rows", z -> z.isSound(), true);
    edges.answers(z -> Orders.of(z, 7, "12 03 23 24 25 36 46"), "31 rows", z -> z.isSound(), true);
    edges.answers(z -> z.table(6, 6), "the greatest table", z -> z.isSound(), true);
    edges.answers(z -> z.explore(6), "exploring", z -> z.isSound(), true);
    edges.answers(z -> {
      z.explore(1);
      z.accept();
    }, "explored", z -> z.isSound(), true);
  }
}
