/** The edges of promises 1 to 16: orders given by pairs or made from others. */
public final class OrderEdgesTest {
  private static final Edges edges = new Edges("OrderEdgesTest", 1, 16);

  private static final Edges.Build TWELVE = z -> z.order(12);
  private static final Edges.Build CHAIN = z -> Orders.chain(z, 12);

  public static void main(String[] args) {
    newObject();
    order();
    relate();
    divisors();
    allDivisors();
    subsets();
    madeAnew();
    dual();
    sum();
    product();
    intervals();
    clear();
    size();
    above();
    covers();
    rank();
    isRanked();
    areAlike();
    edges.end();
  }

  private static void newObject() {
    edges.of(1, "Creates a hall without orders, with a table without things that has 1 mark.");
    edges.answers(Edges.EMPTY, "no orders", z -> z.clear(), 0);
    edges.answers(Edges.EMPTY, "the first one", z -> z.order(1), 0);
    edges.answers(Edges.EMPTY, "no things", z -> z.table(1, 1), 0);
    edges.answers(Edges.EMPTY, "a concept of no things", z -> z.conceptAt(0, true), 0);
    edges.answers(Edges.EMPTY, "with the one mark", z -> z.conceptAt(0, false), 1);
    edges.answers(Edges.EMPTY, "one concept", z -> z.concepts(), 1);
    edges.answers(Edges.EMPTY, "one implication", z -> z.implications(), 1);
    edges.answers(Edges.EMPTY, "of nothing", z -> z.implicationAt(0, true), 0);
    edges.answers(Edges.EMPTY, "the one mark again", z -> z.implicationAt(0, false), 1);
    edges.answers(Edges.EMPTY, "nothing typed", z -> z.wipe(), 0);
    edges.answers(Edges.EMPTY, "none prefers", z -> z.ranking(6, -1), 0);
    edges.answers(Edges.EMPTY, "sound", z -> z.isSound(), true);
    edges.refuses(Edges.EMPTY, "no order", Check.INDEX, z -> z.size(0));
    edges.refuses(Edges.EMPTY, "no thing", Check.INDEX, z -> z.cross(0, 0, true));
    edges.refuses(Edges.EMPTY, "not exploring", Check.NONE, z -> z.question(true));
  }

  private static void order() {
    edges.range(2, "- `elements`: how many, 1 to 12", Edges.EMPTY, 1, 12, (z, n) -> z.order(n));
    edges.tenOrders(2, z -> z.order(12));
    edges.first(Edges.FULL, "none, and 10 orders", Check.ARGUMENT, z -> z.order(0));
    edges.first(Edges.FULL, "13, and 10 orders", Check.ARGUMENT, z -> z.order(13));
    edges.of(2, "Adds an order of elements that are not related.");
    for (int n = 1; n <= 12; n++) {
      int many = n;
      Edges.Build made = z -> {
        Edges.CLEARED.of(z);
        z.order(many);
      };
      edges.answers(made, "so many", z -> z.size(0), many);
      edges.answers(made, "none above the first", z -> z.above(0, 0), 0);
      edges.answers(made, "none above the last", z -> z.above(0, many - 1), 0);
      edges.answers(made, "all side by side", z -> z.width(0), many);
    }
    edges.of(2, "Returns its number.");
    Zetaposet z = new Zetaposet();
    for (int i = 0; i < 10; i++) {
      edges.is("the next one", z.order(1 + i), i);
    }
  }

  private static void relate() {
    edges.noOrder(3, Edges.NO_ORDER_OR_ELEMENT, (z, order) -> z.relate(order, 0, 1));
    edges.noElement(3, Edges.NO_ORDER_OR_ELEMENT, (z, order, x) -> z.relate(order, x, 0));
    edges.noElement(3, Edges.NO_ORDER_OR_ELEMENT, (z, order, x) -> z.relate(order, 2, x));
    edges.first(Edges.SOME, "none, twice", Check.INDEX, z -> z.relate(1, 3, 3));
    edges.first(Edges.SOME, "no order, the same", Check.INDEX, z -> z.relate(5, 0, 0));
    edges.first(Edges.SOME, "no order, below", Check.INDEX, z -> z.relate(-1, 1, 0));
    edges.of(3, "Throws `IllegalArgumentException` if both are the same, "
        + "or the higher one is below the lower one");
    edges.refuses(Edges.SOME, "of one element", Check.ARGUMENT, z -> z.relate(0, 0, 0));
    edges.refuses(Edges.SOME, "the same", Check.ARGUMENT, z -> z.relate(1, 2, 2));
    edges.refuses(Edges.SOME, "below, by the pair", Check.ARGUMENT, z -> z.relate(1, 1, 0));
    edges.refuses(Edges.SOME, "below, by another", Check.ARGUMENT, z -> z.relate(2, 3, 0));
    edges.refuses(CHAIN, "the highest below the lowest", Check.ARGUMENT, z -> z.relate(0, 11, 0));
    edges.refuses(CHAIN, "the highest, twice", Check.ARGUMENT, z -> z.relate(0, 11, 11));
    edges.refuses(CHAIN, "one step down", Check.ARGUMENT, z -> z.relate(0, 1, 0));
    edges.of(3, "Returns how many pairs are related then.");
    edges.answers(TWELVE, "the last two", z -> z.relate(0, 10, 11), 1);
    edges.answers(TWELVE, "downwards by number", z -> z.relate(0, 11, 0), 1);
    edges.answers(CHAIN, "all are already", z -> z.relate(0, 0, 11), 66);
    edges.answers(CHAIN, "none comes by a refused call", z -> {
      try {
        z.relate(0, 11, 0);
      } catch (IllegalArgumentException e) {
        // due
      }
      return z.relate(0, 0, 1);
    }, 66);
    edges.of(3, "Puts an element below another one, with all that follows.");
    Edges.Build halves = z -> {
      z.order(12);
      for (int x = 1; x < 12; x++) {
        if (x != 6) {
          z.relate(0, x - 1, x);
        }
      }
    };
    edges.answers(halves, "one half below the other", z -> z.relate(0, 5, 6), 66);
    edges.answers(halves, "the other half below the one", z -> z.relate(0, 11, 0), 66);
    edges.answers(halves, "ends across", z -> z.relate(0, 0, 11), 31);
  }

  private static void divisors() {
    String out = "Throws `IllegalArgumentException` if it is out of range, "
        + "or has more than 12 divisors";
    edges.of(4, "- `number`: the number, 1 to 99999");
    edges.answers(Edges.EMPTY, "least", z -> z.divisors(1), 0);
    edges.answers(Edges.EMPTY, "greatest", z -> z.divisors(99999), 0);
    edges.of(4, out);
    // All of these have few divisors, or none, so that the range alone is what refuses them.
    int[] beyond = {0, -1, -2, -7, 100000, 100003, 100001, Integer.MAX_VALUE, Integer.MIN_VALUE,
        Integer.MIN_VALUE + 1, 65536 * 2 + 1};
    for (int n : beyond) {
      edges.refuses(Edges.SOME, "" + n, Check.ARGUMENT, z -> z.divisors(n));
    }
    edges.refuses(Edges.SOME, "4096 has 13", Check.ARGUMENT, z -> z.divisors(4096));
    edges.refuses(Edges.SOME, "192 has 14", Check.ARGUMENT, z -> z.divisors(192));
    edges.refuses(Edges.SOME, "83160 has 128", Check.ARGUMENT, z -> z.divisors(83160));
    edges.tenOrders(4, z -> z.divisors(2048));
    edges.first(Edges.FULL, "0, and 10 orders", Check.ARGUMENT, z -> z.divisors(0));
    edges.first(Edges.FULL, "100003, and 10 orders", Check.ARGUMENT, z -> z.divisors(100003));
    edges.first(Edges.FULL, "4096, and 10 orders", Check.ARGUMENT, z -> z.divisors(4096));
  }

  /** All numbers there are, each by what divides it. */
  private static void allDivisors() {
    int[] many = new int[100000];
    for (int d = 1; d < many.length; d++) {
      for (int n = d; n < many.length; n += d) {
        many[n]++;
      }
    }
    edges.of(4, "Adds the order of the divisors of a number.");
    Zetaposet z = new Zetaposet();
    int wrong = 0;
    for (int n = 1; n < many.length; n++) {
      z = n % 100 == 0 ? new Zetaposet() : z;
      int due = many[n] > 12 ? -1 : many[n];
      if (sizeOfDivisors(z, n) != due) {
        wrong++;
      }
    }
    edges.is("how many numbers have not as many as are due", wrong, 0);
  }

  private static int sizeOfDivisors(Zetaposet z, int number) {
    z.clear();
    try {
      return z.size(z.divisors(number));
    } catch (IllegalArgumentException e) {
      return -1;
    }
  }

  private static void subsets() {
    edges.range(5, "- `things`: how many things, 0 to 3", Edges.SOME, 0, 3,
        (z, n) -> z.subsets(n));
    edges.tenOrders(5, z -> z.subsets(0));
    edges.first(Edges.FULL, "-1, and 10 orders", Check.ARGUMENT, z -> z.subsets(-1));
    edges.first(Edges.FULL, "4, and 10 orders", Check.ARGUMENT, z -> z.subsets(4));
    edges.of(5, "Adds the order of all subsets.");
    for (int n = 0; n <= 3; n++) {
      int things = n;
      Edges.Build made = z -> z.subsets(things);
      edges.answers(made, "of " + n, z -> z.size(0), 1 << n);
      edges.answers(made, "all above none", z -> z.above(0, 0), (1 << (1 << n)) - 2);
      edges.answers(made, "none above all", z -> z.above(0, (1 << things) - 1), 0);
    }
  }

  /** What was made before leaves nothing in what is made then. */
  private static void madeAnew() {
    Edges.Build[] befores = {
      z -> z.divisors(60), z -> z.intervals(z.order(12)), z -> z.ideals(Orders.chain(z, 11)),
      z -> z.cuts(Orders.chain(z, 12)), z -> z.part(z.order(12), 4094),
      z -> z.doubled(Orders.chain(z, 6), 0, 5)
    };
    edges.of(5, "Adds the order of all subsets.");
    for (Edges.Build before : befores) {
      Edges.Build anew = z -> {
        before.of(z);
        z.clear();
        z.subsets(3);
        z.divisors(30);
      };
      edges.answers(anew, "none is below all", z -> z.above(0, 0), 254);
      edges.answers(anew, "above the last thing", z -> z.above(0, 4), Orders.set(5, 6, 7));
      edges.answers(anew, "1 divides all", z -> z.above(1, 0), 254);
      edges.answers(anew, "5 divides three", z -> z.above(1, 3), Orders.set(5, 6, 7));
    }
  }

  private static void dual() {
    edges.noOrder(6, Edges.NO_ORDER, (z, order) -> z.dual(order));
    edges.tenOrders(6, z -> z.dual(2));
    edges.first(Edges.FULL, "no order, and 10 of them", Check.INDEX, z -> z.dual(10));
    edges.first(Edges.FULL, "negative, and 10 of them", Check.INDEX, z -> z.dual(-1));
    edges.of(6, "Adds the dual of an order.");
    edges.answers(CHAIN, "of a long chain", z -> z.above(z.dual(0), 11), 2047);
    edges.answers(CHAIN, "its first one", z -> z.above(z.dual(0), 0), 0);
    edges.answers(TWELVE, "of what is not related", z -> z.width(z.dual(0)), 12);
    edges.answers(Edges.SOME, "of one", z -> z.size(z.dual(0)), 1);
    edges.answers(Edges.SOME, "the last of 3", z -> z.above(z.dual(1), 2), 0);
    edges.answers(Edges.SOME, "of the dual", z -> z.above(z.dual(z.dual(1)), 0), 2);
  }

  /** Orders of 12, 1, 2, 6 and 11 elements, so that 12 and 13 can be met. */
  private static final Edges.Build SIZES = z -> {
    z.order(12);
    z.order(1);
    z.order(2);
    Orders.chain(z, 6);
    z.order(11);
    z.order(3);
    z.order(4);
    z.order(7);
  };
  private static final Edges.Build FULL_SIZES = z -> {
    SIZES.of(z);
    z.order(1);
    z.order(1);
  };

  private static void sum() {
    edges.noOrder(7, Edges.NO_ORDER_EITHER, (z, order) -> z.sum(order, 0, true));
    edges.noOrder(7, Edges.NO_ORDER_EITHER, (z, order) -> z.sum(0, order, false));
    edges.noOrder(7, Edges.NO_ORDER_EITHER, (z, order) -> z.sum(order, order, false));
    edges.of(7, Edges.OVER_12);
    for (boolean isAbove : new boolean[] {false, true}) {
      edges.answers(SIZES, "11 and 1", z -> z.size(z.sum(4, 1, isAbove)), 12);
      edges.answers(SIZES, "1 and 11", z -> z.size(z.sum(1, 4, isAbove)), 12);
      edges.answers(SIZES, "6 and 6", z -> z.size(z.sum(3, 3, isAbove)), 12);
      edges.refuses(SIZES, "12 and 1", Check.ARGUMENT, z -> z.sum(0, 1, isAbove));
      edges.refuses(SIZES, "1 and 12", Check.ARGUMENT, z -> z.sum(1, 0, isAbove));
      edges.refuses(SIZES, "11 and 2", Check.ARGUMENT, z -> z.sum(4, 2, isAbove));
      edges.refuses(SIZES, "12 and 12", Check.ARGUMENT, z -> z.sum(0, 0, isAbove));
      edges.first(FULL_SIZES, "13, and 10 orders", Check.ARGUMENT, z -> z.sum(0, 1, isAbove));
      edges.first(FULL_SIZES, "no first one", Check.INDEX, z -> z.sum(10, 0, isAbove));
      edges.first(FULL_SIZES, "no second one", Check.INDEX, z -> z.sum(0, -1, isAbove));
      edges.tenOrders(7, z -> z.sum(1, 2, isAbove));
    }
    edges.of(7, "- `isAbove`: whether all of the second one is above all of the first one");
    edges.answers(SIZES, "all above the first", z -> z.above(z.sum(3, 3, true), 0), 4094);
    edges.answers(SIZES, "all above the sixth", z -> z.above(z.sum(3, 3, true), 5), 4032);
    edges.answers(SIZES, "none above the last", z -> z.above(z.sum(3, 3, true), 11), 0);
    edges.answers(SIZES, "or beside", z -> z.above(z.sum(3, 3, false), 0), 62);
    edges.answers(SIZES, "and the sixth", z -> z.above(z.sum(3, 3, false), 5), 0);
    edges.answers(SIZES, "and the last but one", z -> z.above(z.sum(3, 3, false), 10), 2048);
  }

  private static void product() {
    edges.noOrder(8, Edges.NO_ORDER_EITHER, (z, order) -> z.product(order, 0));
    edges.noOrder(8, Edges.NO_ORDER_EITHER, (z, order) -> z.product(0, order));
    edges.noOrder(8, Edges.NO_ORDER_EITHER, (z, order) -> z.product(order, order));
    edges.of(8, Edges.OVER_12);
    edges.answers(SIZES, "12 by 1", z -> z.size(z.product(0, 1)), 12);
    edges.answers(SIZES, "1 by 12", z -> z.size(z.product(1, 0)), 12);
    edges.answers(SIZES, "2 by 6", z -> z.size(z.product(2, 3)), 12);
    edges.answers(SIZES, "4 by 3", z -> z.size(z.product(6, 5)), 12);
    edges.answers(SIZES, "1 by 1", z -> z.size(z.product(1, 1)), 1);
    edges.refuses(SIZES, "2 by 7", Check.ARGUMENT, z -> z.product(2, 7));
    edges.refuses(SIZES, "7 by 2", Check.ARGUMENT, z -> z.product(7, 2));
    edges.refuses(SIZES, "4 by 4", Check.ARGUMENT, z -> z.product(6, 6));
    edges.refuses(SIZES, "12 by 12", Check.ARGUMENT, z -> z.product(0, 0));
    edges.refuses(SIZES, "12 by 2", Check.ARGUMENT, z -> z.product(0, 2));
    edges.tenOrders(8, z -> z.product(1, 2));
    edges.first(FULL_SIZES, "14, and 10 orders", Check.ARGUMENT, z -> z.product(2, 7));
    edges.first(FULL_SIZES, "no first one", Check.INDEX, z -> z.product(10, 0));
    edges.first(FULL_SIZES, "no second one", Check.INDEX, z -> z.product(0, 10));
    edges.of(8, "Adds the product of two orders.");
    edges.answers(SIZES, "a part of one", z -> z.above(z.product(2, 3), 6), 4096 - 128);
    edges.answers(SIZES, "the other way", z -> z.above(z.product(3, 2), 1), 2728);
  }

  private static void intervals() {
    Edges.Build eleven = z -> z.order(11);
    Edges.Build one = z -> {
      z.order(11);
      z.relate(0, 10, 0);
    };
    Edges.Build two = z -> {
      one.of(z);
      z.relate(0, 10, 1);
    };
    Edges.Build longOnes = z -> {
      Edges.FULL.of(z);
      z.clear();
      for (int i = 0; i < 9; i++) {
        z.order(12);
      }
      z.order(12);
      z.relate(9, 0, 11);
    };
    edges.noOrder(9, Edges.NO_ORDER, (z, order) -> z.intervals(order));
    edges.of(9, Edges.OVER_12);
    edges.answers(eleven, "11", z -> z.size(z.intervals(0)), 11);
    edges.answers(one, "12", z -> z.size(z.intervals(0)), 12);
    edges.answers(TWELVE, "12, of themselves alone", z -> z.size(z.intervals(0)), 12);
    edges.refuses(two, "13", Check.ARGUMENT, z -> z.intervals(0));
    edges.refuses(CHAIN, "78", Check.ARGUMENT, z -> z.intervals(0));
    edges.tenOrders(9, z -> z.intervals(2));
    edges.first(longOnes, "13, and 10 orders", Check.ARGUMENT, z -> z.intervals(9));
    edges.first(longOnes, "no order", Check.INDEX, z -> z.intervals(10));
    edges.of(9, "Adds the order of the intervals of an order.");
    edges.answers(Edges.SOME, "of one", z -> z.size(z.intervals(0)), 1);
    edges.answers(one, "the whole lies in none", z -> z.above(z.intervals(0), 10), 0);
    edges.answers(one, "the highest in the whole", z -> z.above(z.intervals(0), 0), 1024);
    edges.answers(one, "the lowest in the whole", z -> z.above(z.intervals(0), 11), 1024);
  }

  private static void clear() {
    edges.of(10, "Takes all orders away.");
    edges.refuses(Edges.CLEARED, "none is left", Check.INDEX, z -> z.size(0));
    edges.answers(Edges.CLEARED, "numbered from 0 again", z -> z.order(2), 0);
    edges.answers(Edges.CLEARED, "ten find room", z -> {
      int last = -1;
      for (int i = 0; i < 10; i++) {
        last = z.order(1);
      }
      return last;
    }, 9);
    edges.of(10, "Returns how many there were.");
    edges.answers(Edges.EMPTY, "none", z -> z.clear(), 0);
    edges.answers(Edges.SOME, "five", z -> z.clear(), 5);
    edges.answers(Edges.FULL, "ten", z -> z.clear(), 10);
    edges.answers(Edges.CLEARED, "none any more", z -> z.clear(), 0);
  }

  private static void size() {
    edges.noOrder(11, Edges.NO_ORDER, (z, order) -> z.size(order));
    edges.of(11, "Returns the number of elements.");
    edges.answers(Edges.SOME, "least", z -> z.size(0), 1);
    edges.answers(TWELVE, "greatest", z -> z.size(0), 12);
    edges.answers(Edges.FULL, "the last order", z -> z.size(9), 1);
  }

  private static void above() {
    edges.noOrder(12, Edges.NO_ORDER_OR_ELEMENT, (z, order) -> z.above(order, 0));
    edges.noElement(12, Edges.NO_ORDER_OR_ELEMENT, (z, order, x) -> z.above(order, x));
    edges.of(12, "Returns the set, itself not in it.");
    edges.answers(Edges.SOME, "of one", z -> z.above(0, 0), 0);
    for (int x = 0; x < 12; x++) {
      int element = x;
      edges.answers(CHAIN, "all higher ones", z -> z.above(0, element), 4096 - (2 << x));
    }
  }

  private static void covers() {
    edges.noOrder(13, Edges.NO_ORDER_OR_ELEMENT, (z, order) -> z.covers(order, 0));
    edges.noElement(13, Edges.NO_ORDER_OR_ELEMENT, (z, order, x) -> z.covers(order, x));
    edges.of(13, "Returns what an element covers.");
    edges.answers(Edges.SOME, "of one", z -> z.covers(0, 0), 0);
    for (int x = 0; x < 12; x++) {
      int element = x;
      edges.answers(CHAIN, "the next lower one", z -> z.covers(0, element), (1 << x) / 2);
      edges.answers(TWELVE, "none", z -> z.covers(0, element), 0);
    }
    Edges.Build roof = z -> Orders.of(z, 12, "0b 1b 2b 3b 4b 5b 6b 7b 8b 9b ab");
    edges.answers(roof, "eleven", z -> z.covers(0, 11), 2047);
  }

  private static void rank() {
    edges.noOrder(14, Edges.NO_ORDER_OR_ELEMENT, (z, order) -> z.rank(order, 0));
    edges.noElement(14, Edges.NO_ORDER_OR_ELEMENT, (z, order, x) -> z.rank(order, x));
    edges.of(14, "Returns the rank of an element.");
    edges.answers(Edges.SOME, "of one", z -> z.rank(0, 0), 0);
    for (int x = 0; x < 12; x++) {
      int element = x;
      edges.answers(CHAIN, "as high as it stands", z -> z.rank(0, element), x);
      edges.answers(CHAIN, "turned over", z -> z.rank(z.dual(0), element), 11 - x);
      edges.answers(TWELVE, "all lowest", z -> z.rank(0, element), 0);
    }
  }

  private static void isRanked() {
    edges.noOrder(15, Edges.NO_ORDER, (z, order) -> z.isRanked(order));
    edges.of(15, "Returns whether an order is ranked.");
    edges.answers(Edges.SOME, "of one", z -> z.isRanked(0), true);
    edges.answers(CHAIN, "chain", z -> z.isRanked(0), true);
    edges.answers(TWELVE, "antichain", z -> z.isRanked(0), true);
    Edges.Build least = z -> Orders.of(z, 4, "01 12 32");
    edges.answers(least, "the smallest that is not", z -> z.isRanked(0), false);
    Edges.Build late = z -> {
      CHAIN.of(z);
      z.clear();
      z.order(12);
      for (int x = 1; x < 11; x++) {
        z.relate(0, x - 1, x);
      }
      z.relate(0, 11, 10);
    };
    edges.answers(late, "the last one covered too low", z -> z.isRanked(0), false);
  }

  private static void areAlike() {
    edges.noOrder(16, Edges.NO_ORDER_EITHER, (z, order) -> z.areAlike(order, 0));
    edges.noOrder(16, Edges.NO_ORDER_EITHER, (z, order) -> z.areAlike(0, order));
    edges.noOrder(16, Edges.NO_ORDER_EITHER, (z, order) -> z.areAlike(order, order));
    edges.of(16, "- `other`: another one, or the same");
    for (int order = 0; order < 10; order++) {
      int same = order;
      edges.answers(Edges.FULL, "the same", z -> z.areAlike(same, same), true);
    }
    edges.answers(Edges.FULL, "another of one", z -> z.areAlike(0, 9), true);
    edges.answers(Edges.FULL, "of one and of two", z -> z.areAlike(0, 3), false);
    Edges.Build ends = z -> {
      z.order(12);
      Orders.chain(z, 12);
      z.dual(1);
      z.dual(0);
    };
    edges.answers(ends, "a chain turned over", z -> z.areAlike(1, 2), true);
    edges.answers(ends, "an antichain turned over", z -> z.areAlike(0, 3), true);
    edges.answers(ends, "an antichain and a chain", z -> z.areAlike(0, 1), false);
  }
}
