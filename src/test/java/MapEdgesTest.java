/** The edges of promises 49 to 57: maps, cores, embeddings and schedules. */
public final class MapEdgesTest {
  private static final Edges edges = new Edges("MapEdgesTest", 49, 57);

  private static final Edges.Build ONE = z -> z.order(1);
  private static final Edges.Build TWELVE = z -> z.order(12);
  private static final Edges.Build CHAIN = z -> Orders.chain(z, 12);
  private static final String NO_VALUES = "Throws `IllegalArgumentException` if there are not as "
      + "many values as elements, or a value is none";

  public static void main(String[] args) {
    type();
    wipe();
    keeps();
    adjoint();
    fixed();
    core();
    alwaysFixed();
    embeds();
    schedule();
    edges.end();
  }

  /** What is done before, and then a map that is typed. */
  private static Edges.Build typed(Edges.Build build, int... values) {
    return z -> {
      build.of(z);
      for (int value : values) {
        z.type(value);
      }
    };
  }

  private static int[] all(int many, int value) {
    int[] found = new int[many];
    java.util.Arrays.fill(found, value);
    return found;
  }

  private static void type() {
    String out = "Throws `IllegalArgumentException` if it is out of range";
    edges.range(49, "- `value`: the value, 0 to 11", out, Edges.EMPTY, 0, 11, (z, n) -> z.type(n));
    Edges.Build twelve = typed(Edges.EMPTY, all(12, 3));
    edges.of(49, "Throws `IllegalStateException` if there are 12");
    edges.refuses(twelve, "the thirteenth", Check.STATE, z -> z.type(0));
    edges.refuses(twelve, "the thirteenth, 11", Check.STATE, z -> z.type(11));
    edges.answers(typed(Edges.EMPTY, all(11, 3)), "the twelfth", z -> z.type(11), 12);
    edges.first(twelve, "12, and there are 12", Check.ARGUMENT, z -> z.type(12));
    edges.first(twelve, "-1, and there are 12", Check.ARGUMENT, z -> z.type(-1));
    edges.of(49, "Returns how many are typed.");
    for (int n = 0; n < 12; n++) {
      edges.answers(typed(Edges.EMPTY, all(n, 0)), "one more", z -> z.type(0), n + 1);
    }
    edges.answers(twelve, "anew", z -> {
      z.wipe();
      return z.type(11);
    }, 1);
  }

  private static void wipe() {
    edges.of(50, "Takes all values of the map out.");
    Edges.Build wiped = z -> {
      typed(Edges.SOME, all(12, 0)).of(z);
      z.wipe();
    };
    edges.answers(wiped, "none is left", z -> z.wipe(), 0);
    edges.refuses(wiped, "so that there is no map", Check.ARGUMENT, z -> z.keeps(0, 0));
    edges.of(50, "Returns how many there were.");
    for (int n = 0; n <= 12; n++) {
      edges.answers(typed(Edges.EMPTY, all(n, 11)), "so many", z -> z.wipe(), n);
    }
  }

  private static void keeps() {
    edges.noOrder(51, Edges.NO_ORDER_EITHER, (z, order) -> z.keeps(order, 0));
    edges.noOrder(51, Edges.NO_ORDER_EITHER, (z, order) -> z.keeps(0, order));
    edges.noOrder(51, Edges.NO_ORDER_EITHER, (z, order) -> z.keeps(order, order));
    edges.of(51, NO_VALUES);
    edges.refuses(Edges.SOME, "none typed", Check.ARGUMENT, z -> z.keeps(0, 0));
    edges.refuses(typed(Edges.SOME, 0, 0), "two for one", Check.ARGUMENT, z -> z.keeps(0, 0));
    edges.refuses(typed(Edges.SOME, 0, 0), "two for three", Check.ARGUMENT, z -> z.keeps(1, 1));
    edges.refuses(typed(Edges.SOME, all(4, 0)), "four for three", Check.ARGUMENT,
        z -> z.keeps(1, 2));
    edges.refuses(typed(TWELVE, all(11, 0)), "11 for 12", Check.ARGUMENT, z -> z.keeps(0, 0));
    // As many as elements of the other one, but not of the first.
    edges.refuses(typed(Edges.SOME, all(4, 0)), "by the other one", Check.ARGUMENT,
        z -> z.keeps(1, 2));
    edges.refuses(typed(Edges.SOME, 1), "1 of one", Check.ARGUMENT, z -> z.keeps(0, 0));
    edges.refuses(typed(Edges.SOME, 3, 0, 0), "first of all", Check.ARGUMENT, z -> z.keeps(1, 1));
    edges.refuses(typed(Edges.SOME, 0, 0, 3), "last of all", Check.ARGUMENT, z -> z.keeps(1, 1));
    edges.refuses(typed(Edges.SOME, 0, 0, 11), "far off", Check.ARGUMENT, z -> z.keeps(1, 2));
    // An element of the first one, but not of the other one.
    edges.refuses(typed(Edges.SOME, 2, 2, 2), "of the first one", Check.ARGUMENT,
        z -> z.keeps(1, 3));
    edges.first(Edges.SOME, "no order, no values", Check.INDEX, z -> z.keeps(5, 0));
    edges.first(Edges.SOME, "no other order, no values", Check.INDEX, z -> z.keeps(0, -1));
    edges.of(51, "Returns whether the map keeps the order.");
    edges.answers(typed(ONE, 0), "of one", z -> z.keeps(0, 0), true);
    edges.answers(typed(Edges.SOME, 3, 3, 3), "the greatest value", z -> z.keeps(1, 2), true);
    edges.answers(typed(Edges.SOME, 1, 0, 2), "one pair turned", z -> z.keeps(1, 1), false);
    edges.answers(typed(TWELVE, all(12, 11)), "all to the last", z -> z.keeps(0, 0), true);
    edges.answers(typed(CHAIN, 0, 1, 2, 3, 4, 5, 6, 7, 8, 9, 11, 10), "the last pair turned",
        z -> z.keeps(0, 0), false);
    edges.answers(typed(CHAIN, 0, 1, 2, 3, 4, 5, 6, 7, 8, 9, 10, 11), "each to itself",
        z -> z.keeps(0, 0), true);
  }

  private static void adjoint() {
    String noOrder = Edges.NO_ORDER + ", for either, or element";
    String noMap = NO_VALUES + ", or it does not keep the order";
    edges.noOrder(52, noOrder, (z, order) -> z.adjoint(order, 0, 0));
    edges.noOrder(52, noOrder, (z, order) -> z.adjoint(0, order, 0));
    edges.noElement(52, noOrder, (z, order, y) -> z.adjoint(0, order, y));
    Edges.Build mapped = typed(Edges.SOME, 0, 1, 2);
    edges.refuses(mapped, "an element of the first one alone", Check.INDEX,
        z -> z.adjoint(1, 3, 2));
    edges.of(52, noMap);
    edges.refuses(Edges.SOME, "none typed", Check.ARGUMENT, z -> z.adjoint(0, 0, 0));
    edges.refuses(mapped, "three for one", Check.ARGUMENT, z -> z.adjoint(0, 1, 0));
    edges.refuses(mapped, "three for four", Check.ARGUMENT, z -> z.adjoint(2, 1, 0));
    edges.refuses(mapped, "2 of two", Check.ARGUMENT, z -> z.adjoint(1, 3, 0));
    edges.refuses(typed(Edges.SOME, 1, 0, 2), "not kept", Check.ARGUMENT,
        z -> z.adjoint(1, 1, 0));
    edges.refuses(typed(CHAIN, 0, 1, 2, 3, 4, 5, 6, 7, 8, 9, 11, 10), "the last pair turned",
        Check.ARGUMENT, z -> z.adjoint(0, 0, 0));
    edges.of(52, "Throws `NoSuchElementException` if the map has no upper adjoint");
    edges.refuses(mapped, "none for 0, which two are at most", Check.NONE,
        z -> z.adjoint(1, 2, 0));
    edges.refuses(typed(CHAIN, all(12, 11)), "none for 0", Check.NONE, z -> z.adjoint(0, 0, 0));
    edges.refuses(typed(CHAIN, all(12, 11)), "so none for 11", Check.NONE,
        z -> z.adjoint(0, 0, 11));
    edges.refuses(typed(CHAIN, all(12, 1)), "none for 0 alone", Check.NONE,
        z -> z.adjoint(0, 0, 11));
    edges.refuses(typed(TWELVE, all(12, 0)), "no greatest one", Check.NONE,
        z -> z.adjoint(0, 0, 0));
    edges.first(Edges.SOME, "no order, no values", Check.INDEX, z -> z.adjoint(5, 0, 0));
    edges.first(Edges.SOME, "no other one, no values", Check.INDEX, z -> z.adjoint(0, 5, 0));
    edges.first(Edges.SOME, "no element, no values", Check.INDEX, z -> z.adjoint(0, 1, 3));
    edges.first(typed(Edges.SOME, 1, 0, 2), "no element, not kept", Check.INDEX,
        z -> z.adjoint(1, 1, -1));
    edges.first(typed(CHAIN, all(12, 11)), "no element, no adjoint", Check.INDEX,
        z -> z.adjoint(0, 0, 12));
    edges.first(typed(CHAIN, 11, 11, 11, 11, 11, 11, 11, 11, 11, 11, 11, 10),
        "not kept, no adjoint", Check.ARGUMENT, z -> z.adjoint(0, 0, 0));
    edges.of(52, "Returns a value of the upper adjoint of the map.");
    edges.answers(typed(ONE, 0), "of one", z -> z.adjoint(0, 0, 0), 0);
    for (int y = 0; y < 12; y++) {
      int most = y;
      edges.answers(typed(CHAIN, 0, 1, 2, 3, 4, 5, 6, 7, 8, 9, 10, 11), "each to itself",
          z -> z.adjoint(0, 0, most), y);
      edges.answers(typed(TWELVE, 11, 10, 9, 8, 7, 6, 5, 4, 3, 2, 1, 0), "turned over",
          z -> z.adjoint(0, 0, most), 11 - y);
      edges.answers(typed(CHAIN, all(12, 0)), "all to the least", z -> z.adjoint(0, 0, most), 11);
    }
  }

  private static void fixed() {
    edges.noOrder(53, Edges.NO_ORDER_OR_ELEMENT, (z, order) -> z.fixed(order, 0));
    edges.noElement(53, Edges.NO_ORDER_OR_ELEMENT, (z, order, x) -> z.fixed(order, x));
    edges.of(53, NO_VALUES);
    edges.refuses(Edges.SOME, "none typed", Check.ARGUMENT, z -> z.fixed(0, 0));
    edges.refuses(typed(Edges.SOME, 0, 0), "two for three", Check.ARGUMENT, z -> z.fixed(1, 0));
    edges.refuses(typed(Edges.SOME, all(4, 0)), "four for three", Check.ARGUMENT,
        z -> z.fixed(1, 0));
    edges.refuses(typed(Edges.SOME, 0, 0, 3), "3 of three", Check.ARGUMENT, z -> z.fixed(1, 0));
    edges.refuses(typed(Edges.SOME, 11, 0, 0), "11 of three", Check.ARGUMENT, z -> z.fixed(1, 1));
    edges.refuses(typed(TWELVE, all(11, 0)), "11 for 12", Check.ARGUMENT, z -> z.fixed(0, 0));
    edges.first(Edges.SOME, "no order, no values", Check.INDEX, z -> z.fixed(5, 0));
    edges.first(Edges.SOME, "no element, no values", Check.INDEX, z -> z.fixed(1, 3));
    edges.first(Edges.SOME, "negative, no values", Check.INDEX, z -> z.fixed(1, -1));
    edges.of(53, "Returns the least element of the ring that is come to, by number.");
    edges.answers(typed(ONE, 0), "of one", z -> z.fixed(0, 0), 0);
    edges.answers(typed(TWELVE, 1, 2, 3, 4, 5, 6, 7, 8, 9, 10, 11, 11), "a long way",
        z -> z.fixed(0, 0), 11);
    edges.answers(typed(TWELVE, 1, 2, 3, 4, 5, 6, 7, 8, 9, 10, 11, 10), "and two at its end",
        z -> z.fixed(0, 0), 10);
    for (int x = 0; x < 12; x++) {
      int element = x;
      edges.answers(typed(TWELVE, 1, 2, 3, 4, 5, 6, 7, 8, 9, 10, 11, 0), "all round",
          z -> z.fixed(0, element), 0);
      edges.answers(typed(CHAIN, 0, 1, 2, 3, 4, 5, 6, 7, 8, 9, 10, 11), "where it is",
          z -> z.fixed(0, element), x);
      edges.answers(typed(CHAIN, 11, 0, 1, 2, 3, 4, 5, 6, 7, 8, 9, 10), "it need not be kept",
          z -> z.fixed(0, element), 0);
    }
  }

  private static void core() {
    edges.noOrder(54, Edges.NO_ORDER, (z, order) -> z.core(order));
    edges.of(54, "Returns the set of elements that are left.");
    edges.answers(ONE, "of one", z -> z.core(0), 1);
    edges.answers(TWELVE, "all", z -> z.core(0), 4095);
    edges.answers(CHAIN, "the last one", z -> z.core(0), 2048);
    edges.answers(CHAIN, "the last one by number", z -> z.core(z.dual(0)), 2048);
    Edges.Build two = z -> Orders.of(z, 12, "ba");
    edges.answers(two, "the lower number goes", z -> z.core(0), 4095 - 1024);
  }

  private static void alwaysFixed() {
    edges.noOrder(55, Edges.NO_ORDER, (z, order) -> z.alwaysFixed(order));
    edges.of(55, "Throws `UnsupportedOperationException` if it has more than 6 elements");
    for (int n = 7; n <= 12; n++) {
      int many = n;
      edges.refuses(z -> z.order(many), n + " apart", Check.UNSUPPORTED, z -> z.alwaysFixed(0));
      edges.refuses(z -> Orders.chain(z, many), n + " in a chain", Check.UNSUPPORTED,
          z -> z.alwaysFixed(0));
    }
    edges.of(55, "Returns whether they have.");
    for (int n = 1; n <= 6; n++) {
      int many = n;
      edges.answers(z -> z.order(many), n + " apart", z -> z.alwaysFixed(0), n == 1);
      edges.answers(z -> Orders.chain(z, many), n + " in a chain", z -> z.alwaysFixed(0), true);
    }
  }

  private static void embeds() {
    edges.noOrder(56, Edges.NO_ORDER_EITHER, (z, order) -> z.embeds(order, 0));
    edges.noOrder(56, Edges.NO_ORDER_EITHER, (z, order) -> z.embeds(0, order));
    edges.noOrder(56, Edges.NO_ORDER_EITHER, (z, order) -> z.embeds(order, order));
    edges.of(56, "Returns whether an order is alike to a part of another one.");
    Edges.Build sizes = z -> {
      z.order(12);
      z.order(11);
      Orders.chain(z, 12);
      Orders.chain(z, 11);
      z.order(1);
    };
    edges.answers(sizes, "all of it", z -> z.embeds(0, 0), true);
    edges.answers(sizes, "all but one", z -> z.embeds(1, 0), true);
    edges.answers(sizes, "one too many", z -> z.embeds(0, 1), false);
    edges.answers(sizes, "a whole chain", z -> z.embeds(2, 2), true);
    edges.answers(sizes, "a chain but one", z -> z.embeds(3, 2), true);
    edges.answers(sizes, "a chain too long", z -> z.embeds(2, 3), false);
    edges.answers(sizes, "one in a chain", z -> z.embeds(4, 2), true);
    edges.answers(sizes, "one in one", z -> z.embeds(4, 4), true);
    edges.answers(sizes, "eleven apart in a chain", z -> z.embeds(1, 2), false);
    edges.answers(sizes, "a chain in twelve apart", z -> z.embeds(3, 0), false);
  }

  private static void schedule() {
    edges.noOrder(57, Edges.NO_ORDER, (z, order) -> z.schedule(order, 1));
    edges.range(57, "- `machines`: how many machines, 1 to 12", Edges.SOME, 1, 12,
        (z, n) -> z.schedule(2, n));
    edges.first(Edges.SOME, "no order, no machines", Check.INDEX, z -> z.schedule(5, 0));
    edges.first(Edges.SOME, "negative, 13 machines", Check.INDEX, z -> z.schedule(-1, 13));
    edges.of(57, "Returns the fewest steps of a schedule.");
    for (int n = 1; n <= 12; n++) {
      int machines = n;
      edges.answers(ONE, "of one", z -> z.schedule(0, machines), 1);
      edges.answers(CHAIN, "one after another", z -> z.schedule(0, machines), 12);
      edges.answers(TWELVE, "so many at a time", z -> z.schedule(0, machines), (11 + n) / n);
    }
  }
}
