import java.util.ArrayList;
import java.util.List;

/** Each sentence of the section Terms, at its edges. */
public final class TermsTest {
  private static final Edges edges = new Edges("TermsTest", 0, 0);

  private static final Edges.Build ONE = z -> z.order(1);
  private static final Edges.Build TWELVE = z -> z.order(12);
  private static final Edges.Build CHAIN = z -> Orders.chain(z, 12);
  private static final Edges.Build SUBSETS = z -> z.subsets(3);
  private static final Edges.Build PENTAGON = z -> Orders.pentagon(z);

  public static void main(String[] args) {
    whole();
    calls();
    orders();
    made();
    alike();
    chains();
    sums();
    rows();
    promoted();
    told();
    dimension();
    joins();
    kinds();
    congruences();
    doubled();
    crosses();
    implications();
    exploring();
    maps();
    ideals();
    cores();
    rankings();
    exceptions();
    questionsAlone();
    edges.end();
  }

  private static Zetaposet made(Edges.Build build) {
    Zetaposet z = new Zetaposet();
    build.of(z);
    return z;
  }

  private static void whole() {
    edges.of(0, "What is told by chains is what is told by ideals, "
        + "and questions end with the rules that hold alone.");
    Edges.Build[] builds = {
      ONE, SUBSETS, PENTAGON, z -> z.order(3), z -> Orders.chain(z, 11),
      z -> Orders.of(z, 5, "01 23 34")
    };
    for (Edges.Build build : builds) {
      Zetaposet z = made(build);
      int width = z.width(0);
      edges.is("as many chains as the width take all", z.inChains(0, width), z.size(0));
      edges.is("fewer do not", z.inChains(0, width - 1) < z.size(0), true);
      if (z.idealCount(0) <= 12) {
        z.ideals(0);
        edges.is("a row for each way up the ideals", ways(z, 1, z.size(1) - 1), z.rows(0));
      }
    }
    int[][] tables = {{}, {0}, {7}, {1, 2, 4}, {3, 2, 6}, {0, 1, 2, 3, 5, 6}};
    for (int[] things : tables) {
      Zetaposet z = new Zetaposet();
      int rules = explored(z, 3, things);
      edges.is("what was accepted is what is told", z.implications(), rules);
    }
  }

  /** How many ways lead down from an element, from one that covers to one that is covered. */
  private static long ways(Zetaposet z, int order, int element) {
    int covered = z.covers(order, element);
    long found = covered == 0 ? 1 : 0;
    for (int x = 0; x < z.size(order); x++) {
      found += (covered >> x & 1) != 0 ? ways(z, order, x) : 0;
    }
    return found;
  }

  /** Answers by these things alone, to the end; tells how many rules were accepted. */
  private static int explored(Zetaposet z, int marks, int[] things) {
    z.explore(marks);
    int rules = 0;
    for (int i = 0; i < 64; i++) {
      int premise;
      try {
        premise = z.question(true);
      } catch (java.util.NoSuchElementException e) {
        return rules;
      }
      int conclusion = z.question(false);
      int refusing = -1;
      for (int thing : things) {
        boolean isRefusing = (premise & ~thing) == 0 && (conclusion & ~thing) != 0;
        refusing = isRefusing ? thing : refusing;
      }
      if (refusing < 0) {
        rules = z.accept();
      } else {
        z.refuse(refusing);
      }
    }
    return -1;
  }

  private static void calls() {
    edges.of(0, "An object is used for at most 512 calls after it has been made; "
        + "what later calls answer is free.");
    Zetaposet z = new Zetaposet();
    for (int i = 0; i < 170; i++) {
      edges.is("call " + 3 * i, z.order(12), 0);
      edges.is("call " + (3 * i + 1), z.rows(0), 479001600L);
      edges.is("call " + (3 * i + 2), z.clear(), 1);
    }
    edges.is("the last but one", z.order(1), 0);
    edges.is("the last", z.size(0), 1);
    Zetaposet y = new Zetaposet();
    int refused = 0;
    for (int i = 0; i < 511; i++) {
      try {
        y.size(i % 3 - 1);
      } catch (IndexOutOfBoundsException e) {
        refused++;
      }
    }
    edges.is("all refused", refused, 511);
    edges.is("and yet", y.order(3), 0);
  }

  private static void orders() {
    edges.of(0, "At most 10 orders are numbered from 0, each of at most 12 elements from 0 on.");
    Edges.Build[] builds = {
      z -> z.order(12), z -> z.divisors(60), z -> z.subsets(3), z -> Orders.chain(z, 12)
    };
    for (Edges.Build build : builds) {
      Edges.Build full = z -> {
        for (int i = 0; i < 10; i++) {
          z.clear();
          for (int k = 0; k <= i; k++) {
            z.order(2);
          }
        }
        z.clear();
        build.of(z);
        for (int i = 1; i < 10; i++) {
          z.dual(i - 1);
        }
      };
      edges.answers(full, "the tenth is there", z -> z.size(9) == z.size(0), true);
      edges.refuses(full, "an eleventh is not", Check.STATE, z -> z.dual(0));
    }
    edges.answers(TWELVE, "the twelfth element", z -> z.above(0, 11), 0);
    edges.refuses(TWELVE, "a thirteenth", Check.INDEX, z -> z.above(0, 12));
    edges.of(0, "Sets of elements are told as sums of 2 to the power of each.");
    edges.answers(ONE, "of none", z -> z.above(0, 0), 0);
    edges.answers(ONE, "of 0", z -> z.antichain(0), 1);
    edges.answers(TWELVE, "of all twelve", z -> z.core(0), 4095);
    edges.answers(CHAIN, "of 11", z -> z.above(0, 10), 2048);
    edges.of(0, "An element covers another one if it is above it, and nothing is between.");
    Edges.Build apart = z -> Orders.of(z, 12, "0b");
    edges.answers(apart, "nothing between", z -> z.covers(0, 11), 1);
    edges.answers(z -> {
      apart.of(z);
      Orders.of(z, 12, "0b 05 5b");
    }, "something put between", z -> z.covers(1, 11), 32);
    edges.answers(CHAIN, "not what is above", z -> z.covers(0, 0), 0);
    edges.of(0, "The rank of an element is the number of elements in the longest chain that ends "
        + "in it, less 1; an order is ranked if the rank of each one is 1 more than that of each "
        + "one that it covers.");
    edges.answers(ONE, "one element, less 1", z -> z.rank(0, 0), 0);
    edges.answers(CHAIN, "twelve, less 1", z -> z.rank(0, 11), 11);
    edges.answers(PENTAGON, "by the longest", z -> z.rank(0, 4), 3);
    edges.answers(PENTAGON, "2 more than one that it covers", z -> z.isRanked(0), false);
    edges.answers(TWELVE, "none covers", z -> z.isRanked(0), true);
  }

  private static void made() {
    edges.of(0, "Elements of orders that are made from others: the dual has the same; a sum of two "
        + "has those of the first one, then of the second one, not related, or the second ones "
        + "above; a product has the pairs, numbered by the first element, then by the second one, "
        + "one at most another one if both parts are; the order of intervals has all pairs of a "
        + "and b with a at most b, ordered likewise, one below another one if it lies in it; that "
        + "of divisors has these by size, one below another one if it divides it; that of subsets "
        + "of some things has them by their numbers.");
    Edges.Build two = z -> {
      Orders.of(z, 3, "20");
      Orders.of(z, 2, "10");
    };
    edges.answers(two, "dual", z -> z.above(z.dual(0), 0), Orders.set(2));
    edges.answers(two, "sum, the first ones", z -> z.above(z.sum(0, 1, false), 2), Orders.set(0));
    edges.answers(two, "sum, the second ones", z -> z.above(z.sum(0, 1, false), 4), Orders.set(3));
    edges.answers(two, "sum, above", z -> z.above(z.sum(0, 1, true), 0), Orders.set(3, 4));
    edges.answers(two, "sum, the lowest of the second", z -> z.above(z.sum(0, 1, true), 4),
        Orders.set(3));
    edges.answers(two, "product, 2 with 1 below 2 with 0, and below 0",
        z -> z.above(z.product(0, 1), 5), Orders.set(0, 1, 4));
    edges.answers(two, "product, 0 with 0 is above", z -> z.above(z.product(0, 1), 0), 0);
    edges.answers(two, "intervals 00 11 20 22", z -> z.above(z.intervals(0), 0), Orders.set(2));
    edges.answers(two, "22", z -> z.above(z.intervals(0), 3), Orders.set(2));
    edges.answers(z -> z.divisors(36), "6 is the fifth of 36, and once", z -> z.above(0, 4),
        Orders.set(6, 7, 8));
    edges.answers(z -> z.divisors(1), "of 1", z -> z.size(0), 1);
    edges.answers(z -> z.subsets(0), "of no things", z -> z.size(0), 1);
    edges.answers(SUBSETS, "the number 5", z -> z.covers(0, 5), Orders.set(1, 4));
  }

  private static void alike() {
    edges.of(0, "Two orders are alike if some renaming makes one the other one.");
    Edges.Build some = z -> {
      Orders.of(z, 12, "01 12 23 34 45 56 67 78 89 9a ab");
      Orders.of(z, 12, "ba a9 98 87 76 65 54 43 32 21 10");
      Orders.of(z, 12, "01 12 23 34 45 56 67 78 89 9a");
      z.order(11);
      Orders.of(z, 4, "01 02 03");
      Orders.of(z, 4, "10 20 30");
      Orders.of(z, 4, "31 30 32");
    };
    edges.answers(some, "all renamed", z -> z.areAlike(0, 1), true);
    edges.answers(some, "one not related", z -> z.areAlike(0, 2), false);
    edges.answers(some, "one fewer", z -> z.areAlike(2, 3), false);
    edges.answers(some, "turned over, as many pairs", z -> z.areAlike(4, 5), false);
    edges.answers(some, "the least one is another", z -> z.areAlike(4, 6), true);
  }

  private static void chains() {
    edges.of(0, "The width is the size of a greatest antichain.");
    for (Edges.Build build : new Edges.Build[] {ONE, TWELVE, CHAIN, SUBSETS, PENTAGON}) {
      Zetaposet z = made(build);
      edges.is("so many", z.width(0), Integer.bitCount(z.antichain(0)));
    }
    edges.of(0, "Of the sets that are so many chains together, or fewer, the greatest one is told "
        + "by its size.");
    edges.answers(SUBSETS, "none", z -> z.inChains(0, 0), 0);
    edges.answers(SUBSETS, "more than are needed", z -> z.inChains(0, 12), 8);
    edges.answers(CHAIN, "one is enough", z -> z.inChains(0, 2), 12);
    edges.of(0, "An order is parted into symmetric chains if each chain goes by covers from a rank "
        + "to the greatest rank less it, the order being ranked, and each element is in one.");
    edges.answers(ONE, "from 0 to 0", z -> z.isSymmetric(0), true);
    edges.answers(CHAIN, "from 0 to 11", z -> z.isSymmetric(0), true);
    edges.answers(SUBSETS, "0 to 3, and 1 to 2 twice", z -> z.isSymmetric(0), true);
    Edges.Build odd = z -> Orders.of(z, 4, "01 12 13");
    edges.answers(odd, "one is left over", z -> z.isSymmetric(0), false);
    edges.answers(PENTAGON, "not ranked", z -> z.isSymmetric(0), false);
    // 0 2 4 and 1 3 would part it, but 2 does not cover 0.
    Edges.Build gap = z -> Orders.of(z, 5, "01 12 13 24");
    edges.answers(gap, "a step that is no cover", z -> z.isSymmetric(0), false);
  }

  private static void sums() {
    edges.of(0, "The sum of Moebius of a and b is 1 if both are the same, 0 if a is not at most b, "
        + "otherwise less the sum over all from a on below b.");
    edges.answers(ONE, "the same", z -> z.moebius(0, 0, 0), 1L);
    edges.answers(TWELVE, "not at most", z -> z.moebius(0, 0, 11), 0L);
    edges.answers(CHAIN, "above", z -> z.moebius(0, 1, 0), 0L);
    edges.answers(SUBSETS, "all below", z -> z.moebius(0, 0, 7), -1L);
    edges.answers(SUBSETS, "from a on, not from the least", z -> z.moebius(0, 1, 7), 1L);
    edges.of(0, "The number of rows of k steps from a to b counts a at most x at most .. at most "
        + "b, with k less 1 between.");
    edges.answers(SUBSETS, "none between", z -> z.rowsBetween(0, 0, 7, 1), 1L);
    edges.answers(SUBSETS, "one between", z -> z.rowsBetween(0, 0, 7, 2), 8L);
    edges.answers(SUBSETS, "two between", z -> z.rowsBetween(0, 0, 7, 3), 27L);
    edges.answers(ONE, "eight between", z -> z.rowsBetween(0, 0, 0, 9), 1L);
    edges.of(0, "The Euler number is the sum over all chains that are not empty, 1 for those of an "
        + "odd number of elements, -1 for the others, less 1.");
    edges.answers(ONE, "one chain, less 1", z -> z.euler(0), 0L);
    edges.answers(z -> Orders.chain(z, 2), "two, less one, less 1", z -> z.euler(0), 0L);
    edges.answers(z -> z.order(2), "two, less 1", z -> z.euler(0), 1L);
    edges.of(0, "The characteristic value at x, for a ranked order with a least element, is the "
        + "sum over all elements of the sum of Moebius of the least one and it, times x to the "
        + "power of the greatest rank less its own, the power 0 of 0 being 1.");
    edges.answers(ONE, "at 0", z -> z.characteristic(0, 0), 1L);
    edges.answers(SUBSETS, "at 0 the highest rank alone", z -> z.characteristic(0, 0), -1L);
    edges.answers(SUBSETS, "at 1 all", z -> z.characteristic(0, 1), 0L);
    edges.answers(SUBSETS, "at -1", z -> z.characteristic(0, -1), -8L);
    Edges.Build low = z -> Orders.of(z, 4, "10 12 13");
    edges.answers(low, "the least one is not the first", z -> z.characteristic(0, 5), 2L);
  }

  private static List<int[]> allRows(Zetaposet z, int order) {
    List<int[]> found = new ArrayList<>();
    for (long row = 0; row < z.rows(order); row++) {
      int[] places = new int[z.size(order)];
      for (int place = 0; place < places.length; place++) {
        places[place] = z.rowAt(order, row, place);
      }
      found.add(places);
    }
    return found;
  }

  private static void rows() {
    Edges.Build[] builds = {
      ONE, CHAIN, z -> z.order(3), z -> Orders.of(z, 4, "20 13"), z -> Orders.of(z, 5, "43 32 10")
    };
    for (Edges.Build build : builds) {
      Zetaposet z = made(build);
      List<int[]> all = allRows(z, 0);
      edges.of(0, "A row of an order has all elements, each behind those below it.");
      for (int[] row : all) {
        int seen = 0;
        boolean isRight = true;
        for (int x : row) {
          isRight &= (seen & z.above(0, x)) == 0 && (seen >> x & 1) == 0;
          seen |= 1 << x;
        }
        edges.is("each behind those below", isRight, true);
        edges.is("all of them", seen, (1 << z.size(0)) - 1);
      }
      edges.of(0, "Rows are ordered by their first elements, then by the next ones; a row is told "
          + "by its number.");
      for (int i = 1; i < all.size(); i++) {
        edges.is("the next one", java.util.Arrays.compare(all.get(i - 1), all.get(i)) < 0, true);
      }
    }
  }

  private static int numberOf(List<int[]> all, int[] row) {
    for (int i = 0; i < all.size(); i++) {
      if (java.util.Arrays.equals(all.get(i), row)) {
        return i;
      }
    }
    return -1;
  }

  /** What begins a row is promoted by the sentence's own words: by places, not by elements. */
  private static int[] promotedFirst(Zetaposet z, int[] row, int length) {
    List<Integer> chain = new ArrayList<>();
    int last = 0;
    chain.add(0);
    for (int place = 1; place < length; place++) {
      if ((z.covers(0, row[place]) >> row[last] & 1) != 0) {
        chain.add(place);
        last = place;
      }
    }
    int[] found = row.clone();
    for (int place = 0; place < length; place++) {
      int at = chain.indexOf(place);
      int then = at < 0 ? place : at + 1 < chain.size() ? chain.get(at + 1) : length;
      found[then - 1] = row[place];
    }
    return found;
  }

  private static void promoted() {
    Edges.Build[] builds = {
      ONE, z -> Orders.chain(z, 5), z -> z.order(3), z -> Orders.of(z, 4, "20 13"),
      z -> Orders.of(z, 5, "43 32 10 41"), z -> Orders.of(z, 4, "01 02 13 23")
    };
    for (Edges.Build build : builds) {
      Zetaposet z = made(build);
      List<int[]> all = allRows(z, 0);
      for (int i = 0; i < all.size(); i++) {
        edges.of(0, "A row is promoted so: a chain begins with its first element, and goes on, "
            + "again and again, with the first one in the row of those that cover its last "
            + "element, until there is none; each element of the chain gets the place of the next "
            + "one of it, its last element the place behind all; then all places count 1 less.");
        int[] row = all.get(i);
        int due = numberOf(all, promotedFirst(z, row, row.length));
        edges.is("row " + i, z.promote(0, i), (long) due);
        edges.of(0, "A row is evacuated by promoting it, then all but its last element, then all "
            + "but the last two, and so on, those that are left out staying.");
        for (int length = row.length; length > 0; length--) {
          row = promotedFirst(z, row, length);
        }
        edges.is("row " + i, z.evacuate(0, i), (long) numberOf(all, row));
      }
    }
  }

  private static void told() {
    edges.of(0, "A jump is a pair in a row, one directly behind the other, that is not related.");
    edges.answers(ONE, "no pair", z -> z.jumps(0), 0);
    edges.answers(z -> z.order(2), "the only pair", z -> z.jumps(0), 1);
    edges.answers(z -> Orders.of(z, 2, "10"), "a pair that is related", z -> z.jumps(0), 0);
    Edges.Build cover = z -> Orders.of(z, 4, "01 12 23");
    edges.answers(cover, "related, whatever is covered", z -> z.jumps(0), 0);
    edges.of(0, "The balance is the greatest number, over pairs not related, of the lesser one of "
        + "the numbers of rows in which the one is ahead, and in which the other one is.");
    edges.answers(z -> z.order(2), "one each", z -> z.balance(0), 1L);
    // 3 beside the chain 0 1 2: ahead of 0 in 1 of 4, of 1 in 2, of 2 in 3.
    edges.answers(z -> Orders.of(z, 4, "01 12"), "the best pair", z -> z.balance(0), 2L);
    edges.of(0, "The fewest questions are those by which one of all rows is found for certain, "
        + "whatever the answers, each question being which of two elements is ahead.");
    edges.answers(ONE, "one row, none", z -> z.questions(0), 0);
    edges.answers(z -> z.order(2), "two rows, one", z -> z.questions(0), 1);
    edges.answers(z -> z.order(3), "six rows, three", z -> z.questions(0), 3);
    edges.answers(z -> z.order(4), "24 rows, five", z -> z.questions(0), 5);
    // One beside a chain of 7 has 8 rows: three questions, each at the middle.
    edges.answers(z -> Orders.of(z, 8, "01 12 23 34 45 56"), "eight rows, three",
        z -> z.questions(0), 3);
    edges.answers(z -> Orders.of(z, 9, "01 12 23 34 45 56 67"), "nine rows, four",
        z -> z.questions(0), 4);
  }

  private static void dimension() {
    edges.of(0, "It is the least number of rows so that what is ahead in all of them is below in "
        + "the order; 1 for a chain.");
    edges.answers(ONE, "one", z -> z.dimension(0), 1);
    edges.answers(z -> Orders.chain(z, 6), "a chain", z -> z.dimension(0), 1);
    edges.answers(z -> z.order(2), "two apart", z -> z.dimension(0), 2);
    edges.answers(z -> Orders.of(z, 6, "01 12 23 34"), "one beside a chain", z -> z.dimension(0),
        2);
    edges.of(0, "An order is one of intervals if it has no a below b and c below d, neither "
        + "related to the other pair; of like intervals, if also no three in a chain beside one "
        + "that is related to none of them.");
    Edges.Build pairs = z -> Orders.of(z, 4, "01 23");
    edges.answers(pairs, "two and two", z -> z.isOfIntervals(0, false), false);
    Edges.Build related = z -> Orders.of(z, 4, "01 23 03");
    edges.answers(related, "related by one pair", z -> z.isOfIntervals(0, false), true);
    edges.answers(related, "and like", z -> z.isOfIntervals(0, true), true);
    Edges.Build three = z -> Orders.of(z, 4, "01 12");
    edges.answers(three, "three and one", z -> z.isOfIntervals(0, false), true);
    edges.answers(three, "which are not like", z -> z.isOfIntervals(0, true), false);
    Edges.Build touched = z -> Orders.of(z, 4, "01 12 32");
    edges.answers(touched, "related to one of them", z -> z.isOfIntervals(0, true), true);
  }

  private static void joins() {
    edges.of(0, "The join of two elements is the least of all that are above both, or the same, "
        + "the meet likewise below.");
    edges.answers(ONE, "the same", z -> z.join(0, 0, 0), 0);
    edges.answers(ONE, "the same below", z -> z.meet(0, 0, 0), 0);
    edges.answers(CHAIN, "one is above the other", z -> z.join(0, 3, 8), 8);
    edges.answers(CHAIN, "one is below the other", z -> z.meet(0, 8, 3), 3);
    edges.answers(PENTAGON, "of three above both the least", z -> z.join(0, 1, 3), 4);
    edges.answers(PENTAGON, "below both", z -> z.meet(0, 2, 3), 0);
    edges.of(0, "A lattice has both for all pairs, and at least one element.");
    edges.answers(ONE, "one element", z -> z.isLattice(0), true);
    edges.answers(z -> Orders.of(z, 3, "01 02"), "no join", z -> z.isLattice(0), false);
    edges.answers(z -> Orders.of(z, 3, "10 20"), "no meet", z -> z.isLattice(0), false);
    edges.answers(z -> z.order(2), "neither", z -> z.isLattice(0), false);
    edges.answers(CHAIN, "both", z -> z.isLattice(0), true);
    edges.of(0, "An element is joined if it covers just one.");
    edges.answers(ONE, "none covered", z -> z.joined(0), 0);
    edges.answers(z -> z.subsets(2), "one, not two", z -> z.joined(0), Orders.set(1, 2));
  }

  private static void kinds() {
    edges.of(0, "It is distributive if the meet of a and the join of b and c is the join of both "
        + "meets, for all; modular if that holds as c is at most a; geometric if it is ranked, the "
        + "ranks of the meet and the join of two are together at most theirs, and each element is "
        + "a join of some that cover the least one, the least one aside.");
    String[] due = {"dmg", "-mg", "---", "dm-", "dmg", "dm-", "---"};
    Edges.Build[] builds = {
      ONE, Orders::diamond, PENTAGON, CHAIN, SUBSETS, z -> z.divisors(12),
      z -> Orders.of(z, 6, "01 02 13 24 35 45")
    };
    for (int i = 0; i < builds.length; i++) {
      for (char kind : new char[] {'d', 'm', 'g'}) {
        edges.answers(builds[i], "lattice " + i + ", " + kind, z -> z.isOfKind(0, kind),
            due[i].indexOf(kind) >= 0);
      }
    }
  }

  private static void congruences() {
    edges.of(0, "A congruence is a parting into classes that joins and meets keep; an order of one "
        + "element has one.");
    edges.answers(ONE, "one", z -> z.congruences(0), 1);
    edges.answers(z -> Orders.chain(z, 2), "two of two", z -> z.congruences(0), 2);
    edges.answers(z -> z.subsets(2), "four of four", z -> z.congruences(0), 4);
    edges.answers(Orders::diamond, "two of a diamond", z -> z.congruences(0), 2);
  }

  private static void doubled() {
    edges.of(0, "To double an interval gives each of its elements a second one, right behind it: x "
        + "at most y, or at most the second one of y, if x is at most y; the second one of x at "
        + "most that of y, if x is at most y; the second one of x at most y, which is not in the "
        + "interval, if x is at most y; nothing else of second ones.");
    // The chain 0 1 2 3, of which 1 and 2 are doubled, is numbered 0, 1, 1', 2, 2', 3.
    Edges.Build made = z -> z.doubled(Orders.chain(z, 4), 1, 2);
    edges.answers(made, "below it", z -> z.above(1, 0), Orders.set(1, 2, 3, 4, 5));
    edges.answers(made, "in it", z -> z.above(1, 1), Orders.set(2, 3, 4, 5));
    edges.answers(made, "a second one, not below 2", z -> z.above(1, 2), Orders.set(4, 5));
    edges.answers(made, "the last in it", z -> z.above(1, 3), Orders.set(4, 5));
    edges.answers(made, "its second one", z -> z.above(1, 4), Orders.set(5));
    edges.answers(made, "above it", z -> z.above(1, 5), 0);
    edges.answers(ONE, "of one", z -> z.size(z.doubled(0, 0, 0)), 2);
    // 1 is beside the interval of 0 and 2, and between none of it.
    Edges.Build beside = z -> z.doubled(Orders.of(z, 3, "02"), 0, 2);
    edges.answers(beside, "one beside stays one", z -> z.size(1), 5);
    edges.answers(beside, "right behind it", z -> z.above(1, 2), 0);
  }

  private static void crosses() {
    edges.of(0, "A table has at most 6 things and 6 marks, numbered from 0.");
    Edges.Build greatest = z -> z.table(6, 6);
    edges.answers(greatest, "the last ones", z -> z.cross(5, 5, true), false);
    edges.answers(greatest, "the first ones", z -> z.cross(0, 0, true), false);
    edges.refuses(greatest, "a seventh thing", Check.INDEX, z -> z.cross(6, 5, true));
    edges.refuses(greatest, "a seventh mark", Check.INDEX, z -> z.cross(5, 6, true));
    edges.refuses(greatest, "seven things", Check.ARGUMENT, z -> z.table(7, 6));
    edges.refuses(greatest, "seven marks", Check.ARGUMENT, z -> z.table(6, 7));
    edges.of(0, "A concept is a set of marks that is just what is common to all things that have "
        + "them all; of no things, all marks are common.");
    edges.answers(z -> z.table(0, 3), "of no things", z -> z.conceptAt(0, false), 7);
    edges.answers(z -> z.table(0, 3), "it alone", z -> z.concepts(), 1);
    edges.answers(z -> z.table(1, 3), "none has all, yet all are a concept",
        z -> z.conceptAt(1, false), 7);
    Edges.Build same = z -> {
      z.table(2, 2);
      z.cross(0, 1, true);
      z.cross(1, 1, true);
    };
    edges.answers(same, "not the empty set, as mark 1 is common", z -> z.conceptAt(0, false), 2);
    edges.answers(same, "of both", z -> z.conceptAt(0, true), 3);
    edges.of(0, "Concepts are in the order of the numbers of their marks.");
    Zetaposet z = new Zetaposet();
    z.table(4, 4);
    for (int i = 0; i < 4; i++) {
      z.cross(i, 3 - i, true);
      z.cross(i, (5 - i) % 4, true);
    }
    for (int i = 1; i < z.concepts(); i++) {
      edges.is("the next one", z.conceptAt(i - 1, false) < z.conceptAt(i, false), true);
    }
  }

  private static void implications() {
    edges.of(0, "An implication has a premise, a set of marks, and a conclusion, all marks that "
        + "all things with the premise have.");
    Edges.Build none = z -> z.table(0, 4);
    edges.answers(none, "no things have all", z -> z.implicationAt(0, false), 15);
    Edges.Build one = z -> {
      z.table(1, 4);
      z.cross(0, 0, true);
      z.cross(0, 2, true);
    };
    edges.answers(one, "what all have, the premise being nothing", z -> z.implicationAt(0, false),
        5);
    edges.answers(one, "the premise is in the conclusion", z -> z.implicationAt(1, false), 15);
    edges.of(0, "Those that are told, are of pseudo-closed premises: sets, by rising size, then by "
        + "numbers, that are not closed, and hold the conclusion of each smaller pseudo-closed "
        + "premise in them.");
    edges.answers(one, "nothing first", z -> z.implicationAt(0, true), 0);
    edges.answers(one, "then with what it concludes", z -> z.implicationAt(1, true), 7);
    edges.answers(one, "and the next number", z -> z.implicationAt(2, true), 13);
    edges.answers(one, "no more", z -> z.implications(), 3);
    // Mark 3 alone is not closed and comes before 0 and 1 together, which has a lower number.
    Edges.Build sizes = z -> {
      z.table(4, 4);
      z.cross(0, 0, true);
      z.cross(1, 1, true);
      z.cross(2, 2, true);
      z.cross(3, 3, true);
      z.cross(3, 2, true);
    };
    edges.answers(sizes, "the smaller one first", z -> z.implicationAt(0, true), 8);
    edges.answers(sizes, "then by numbers", z -> z.implicationAt(1, true), 3);
  }

  private static void exploring() {
    edges.of(0, "Exploring begins with no things and no rules; the question is the first "
        + "pseudo-closed premise, by the things there so far, that is no accepted one, and its "
        + "conclusion; it is accepted, or refused by a thing that has the premise, but not all of "
        + "the conclusion.");
    Edges.Build begun = z -> {
      z.table(3, 3);
      z.cross(0, 0, true);
      z.explore(2);
    };
    edges.answers(begun, "no things", z -> z.table(1, 1), 0);
    edges.answers(begun, "no rules", z -> z.accept(), 1);
    edges.answers(begun, "the first premise", z -> z.question(true), 0);
    edges.answers(begun, "of no things all", z -> z.question(false), 3);
    edges.answers(z -> {
      begun.of(z);
      z.refuse(0);
    }, "by the thing that is there", z -> z.question(true), 1);
    edges.answers(z -> {
      begun.of(z);
      z.refuse(0);
      z.accept();
    }, "not one that is accepted", z -> z.question(true), 2);
    edges.refuses(begun, "a thing with all of the conclusion", Check.ARGUMENT, z -> z.refuse(3));
    edges.of(0, "It ends as there is none.");
    Edges.Build ended = z -> {
      begun.of(z);
      z.accept();
    };
    edges.refuses(ended, "no question", Check.NONE, z -> z.question(true));
    edges.refuses(ended, "none to accept", Check.NONE, z -> z.accept());
    edges.refuses(ended, "none to refuse", Check.NONE, z -> z.refuse(0));
    edges.of(0, "Exploring takes the place of the table, also when it has ended, until a table is "
        + "made.");
    for (Edges.Build build : new Edges.Build[] {begun, ended}) {
      edges.answers(build, "its concepts", z -> z.concepts(), 1);
      edges.answers(build, "its marks", z -> z.conceptAt(0, false), 3);
      edges.answers(build, "its implications", z -> z.implicationAt(0, false), 3);
      edges.answers(build, "its order", z -> z.size(z.conceptOrder()), 1);
      edges.refuses(build, "no thing of the table", Check.INDEX, z -> z.cross(0, 0, true));
      edges.answers(z -> {
        build.of(z);
        z.table(3, 3);
      }, "a table again", z -> z.cross(0, 0, true), false);
    }
  }

  private static Edges.Build typed(Edges.Build build, int... values) {
    return z -> {
      build.of(z);
      for (int value : values) {
        z.type(value);
      }
    };
  }

  private static void maps() {
    edges.of(0, "A map from an order to another one, or the same, has a value for each element, "
        + "typed one by one.");
    Edges.Build sizes = z -> {
      z.order(3);
      z.order(1);
    };
    edges.answers(typed(sizes, 0, 0, 0), "to another one", z -> z.keeps(0, 1), true);
    edges.answers(typed(sizes, 2, 0, 1), "to the same", z -> z.keeps(0, 0), true);
    edges.answers(typed(sizes, 2), "from one", z -> z.keeps(1, 0), true);
    edges.refuses(typed(sizes, 0, 0), "one too few", Check.ARGUMENT, z -> z.keeps(0, 1));
    edges.of(0, "It keeps the order if what is at most has values at most.");
    edges.answers(typed(CHAIN, 0, 0, 0, 0, 0, 0, 11, 11, 11, 11, 11, 11), "the same values",
        z -> z.keeps(0, 0), true);
    edges.answers(typed(z -> Orders.chain(z, 2), 1, 0), "turned", z -> z.keeps(0, 0), false);
    edges.answers(typed(z -> z.order(2), 1, 0), "nothing to keep", z -> z.keeps(0, 0), true);
    edges.of(0, "Its upper adjoint, if there is one for all y, gives each y the greatest x with a "
        + "value at most y.");
    Edges.Build three = z -> Orders.chain(z, 3);
    edges.answers(typed(three, 0, 0, 2), "the greatest of two", z -> z.adjoint(0, 0, 0), 1);
    edges.answers(typed(three, 0, 0, 2), "none new", z -> z.adjoint(0, 0, 1), 1);
    edges.refuses(typed(three, 1, 1, 2), "none for 0, so for none", Check.NONE,
        z -> z.adjoint(0, 0, 2));
    edges.of(0, "From an element on, a map into its own order is done again and again until an "
        + "element comes again.");
    edges.answers(typed(ONE, 0), "at once", z -> z.fixed(0, 0), 0);
    edges.answers(typed(three, 1, 2, 1), "not the first, but the ring", z -> z.fixed(0, 0), 1);
    edges.answers(typed(three, 1, 2, 0), "all of it", z -> z.fixed(0, 2), 0);
  }

  private static void ideals() {
    edges.of(0, "An ideal is a set that has all below its elements.");
    edges.answers(CHAIN, "none", z -> z.turn(0, 0), 1);
    edges.answers(CHAIN, "all", z -> z.turn(0, 4095), 0);
    edges.refuses(CHAIN, "without one below", Check.ARGUMENT, z -> z.turn(0, 5));
    edges.answers(TWELVE, "any, as none is below", z -> z.turn(0, 2048), 2047);
    edges.of(0, "To toggle an element puts it in or out, if that is an ideal then.");
    edges.answers(CHAIN, "in", z -> z.toggle(0, 1, 1), 3);
    edges.answers(CHAIN, "not in", z -> z.toggle(0, 1, 2), 1);
    edges.answers(CHAIN, "out", z -> z.toggle(0, 3, 1), 1);
    edges.answers(CHAIN, "not out", z -> z.toggle(0, 3, 0), 3);
    edges.of(0, "The turn of an ideal is the ideal of the least elements that are not in it; its "
        + "orbit has all that come by turns.");
    Edges.Build tree = z -> Orders.of(z, 4, "02 12");
    edges.answers(tree, "2 needs 0 and 1, 3 is as low", z -> z.turn(0, 3), 15);
    edges.answers(tree, "of all none", z -> z.turn(0, 15), 0);
    edges.answers(tree, "of none the lowest", z -> z.turn(0, 0), 11);
    edges.answers(ONE, "two come", z -> z.orbit(0, 1, false), 2);
    edges.of(0, "The order of ideals has them by numbers; that of cuts has, by numbers, the sets "
        + "that are all elements at most each element that is at least each of theirs.");
    edges.answers(ONE, "none and it", z -> z.size(z.ideals(0)), 2);
    edges.answers(ONE, "it alone", z -> z.size(z.cuts(0)), 1);
    Edges.Build turned = z -> Orders.of(z, 2, "10");
    edges.answers(turned, "none, then 1, then both", z -> z.above(z.ideals(0), 1), 4);
    edges.answers(turned, "1, then both", z -> z.above(z.cuts(0), 0), 2);
    edges.answers(z -> z.order(3), "none, three, and all", z -> z.size(z.cuts(0)), 5);
    edges.answers(z -> z.order(3), "three have no more", z -> z.above(z.cuts(0), 3), 16);
  }

  private static void cores() {
    edges.of(0, "An element that has one only that covers it, or covers one only, is taken out, "
        + "the lowest such one first, again and again; what is left is the core.");
    edges.answers(ONE, "none covers it", z -> z.core(0), 1);
    edges.answers(z -> Orders.of(z, 2, "10"), "the lower number", z -> z.core(0), 2);
    edges.answers(PENTAGON, "down to one", z -> z.core(0), 16);
    edges.answers(TWELVE, "none goes", z -> z.core(0), 4095);
    Edges.Build circle = z -> Orders.of(z, 4, "02 03 12 13");
    edges.answers(circle, "two each", z -> z.core(0), 15);
    edges.of(0, "A map of an order into itself that keeps the order has a fixed point if some "
        + "value is its element.");
    edges.answers(ONE, "there is but one", z -> z.alwaysFixed(0), true);
    edges.answers(z -> z.order(2), "they can change places", z -> z.alwaysFixed(0), false);
    edges.answers(z -> Orders.chain(z, 2), "they cannot", z -> z.alwaysFixed(0), true);
    edges.answers(circle, "round it goes", z -> z.alwaysFixed(0), false);
  }

  private static void rankings() {
    edges.of(0, "For at most 6 things it is told how many prefer one to another one.");
    edges.answers(Edges.EMPTY, "the last two", z -> z.prefer(5, 4, 999), 0);
    edges.refuses(Edges.EMPTY, "a seventh", Check.ARGUMENT, z -> z.prefer(6, 0, 0));
    edges.refuses(Edges.EMPTY, "seven", Check.ARGUMENT, z -> z.ranking(7, 0));
    edges.of(0, "The ranking is the row of all things with the fewest who prefer, for some pair, "
        + "the one behind to the one ahead, of several the first one.");
    Edges.Build two = z -> z.prefer(1, 0, 1);
    edges.answers(two, "one prefers", z -> z.ranking(2, 0), 1);
    edges.answers(two, "none otherwise", z -> z.ranking(2, -1), 0);
    edges.answers(two, "the others as they come", z -> z.ranking(6, 5), 5);
    edges.answers(Edges.EMPTY, "of several the first", z -> z.ranking(6, 0), 0);
    Edges.Build even = z -> {
      two.of(z);
      z.prefer(0, 1, 1);
    };
    edges.answers(even, "as many", z -> z.ranking(2, 0), 0);
    edges.answers(even, "one in each row", z -> z.ranking(2, -1), 1);
    edges.of(0, "A schedule of an order for some machines does, in each step, at most as many "
        + "elements as there are machines, each behind those below it.");
    edges.answers(TWELVE, "one machine", z -> z.schedule(0, 1), 12);
    edges.answers(TWELVE, "eleven, and one more step", z -> z.schedule(0, 11), 2);
    edges.answers(TWELVE, "twelve", z -> z.schedule(0, 12), 1);
    edges.answers(z -> Orders.chain(z, 2), "behind, not beside", z -> z.schedule(0, 12), 2);
  }

  private static void exceptions() {
    Edges.Build rich = z -> {
      Edges.FULL.of(z);
      z.explore(3);
      z.refuse(2);
      z.accept();
      z.type(11);
      z.type(0);
      z.prefer(3, 1, 7);
    };
    edges.of(0, Edges.CHANGES_NOTHING);
    edges.refuses(rich, "an order", Check.STATE, z -> z.order(1));
    edges.refuses(rich, "a pair", Check.ARGUMENT, z -> z.relate(1, 1, 0));
    edges.refuses(rich, "a value", Check.ARGUMENT, z -> z.type(12));
    edges.refuses(rich, "a table", Check.ARGUMENT, z -> z.table(6, 7));
    edges.refuses(rich, "a cross", Check.STATE, z -> z.cross(0, 0, true));
    edges.refuses(rich, "exploring", Check.ARGUMENT, z -> z.explore(7));
    edges.refuses(rich, "a thing", Check.ARGUMENT, z -> z.refuse(7));
    edges.refuses(rich, "who prefer", Check.ARGUMENT, z -> z.prefer(3, 1, 1000));
    edges.refuses(rich, "concepts", Check.STATE, z -> z.conceptOrder());
    edges.of(0, Edges.FIRST_IS_THROWN);
    edges.refuses(rich, "a size, and 10 orders", Check.ARGUMENT, z -> z.order(13));
    edges.refuses(rich, "an order, a size, and 10 orders", Check.INDEX, z -> z.sum(10, 2, true));
    edges.refuses(rich, "an element, the same", Check.INDEX, z -> z.relate(1, 3, 3));
    edges.refuses(rich, "a thing, exploring", Check.INDEX, z -> z.cross(1, 0, true));
    edges.refuses(rich, "an order, no map", Check.INDEX, z -> z.adjoint(10, 0, 0));
    edges.refuses(rich, "a number, a place", Check.ARGUMENT, z -> z.ranking(0, 9));
  }

  private static void questionsAlone() {
    Edges.Build rich = z -> {
      Edges.SOME.of(z);
      Orders.chain(z, 12);
      z.order(12);
      z.explore(3);
      z.refuse(2);
      z.accept();
      z.type(0);
      z.type(1);
      z.type(2);
      z.prefer(3, 1, 7);
    };
    edges.of(0, "Nothing is promised beyond the answers and state changes described above, and "
        + "nothing about an object after its 512th call.");
    edges.answers(rich, "it is as it should be", z -> z.question(true), 3);
    Edges.Ask[] asks = {
      z -> z.size(1), z -> z.above(1, 0), z -> z.covers(2, 3), z -> z.rank(2, 3),
      z -> z.isRanked(6), z -> z.areAlike(5, 6), z -> z.width(6), z -> z.antichain(6),
      z -> z.inChains(6, 3), z -> z.chains(5), z -> z.isSymmetric(5), z -> z.moebius(2, 0, 3),
      z -> z.rowsBetween(5, 0, 11, 9), z -> z.euler(6), z -> z.characteristic(5, 2),
      z -> z.rows(6), z -> z.rowAt(6, 5, 3), z -> z.promote(6, 5), z -> z.evacuate(6, 5),
      z -> z.jumps(6), z -> z.balance(6), z -> z.questions(2), z -> z.dimension(2),
      z -> z.isOfIntervals(6, true), z -> z.isLattice(2), z -> z.join(2, 1, 2),
      z -> z.meet(2, 1, 2), z -> z.isOfKind(2, 'g'), z -> z.joined(5), z -> z.congruences(5),
      z -> z.idealCount(6), z -> z.toggle(6, 5, 1), z -> z.turn(6, 5), z -> z.orbit(6, 5, true),
      z -> z.keeps(1, 5), z -> z.adjoint(1, 1, 0), z -> z.fixed(1, 0), z -> z.core(5),
      z -> z.alwaysFixed(1), z -> z.embeds(1, 6), z -> z.schedule(6, 5), z -> z.concepts(),
      z -> z.conceptAt(1, true), z -> z.implications(), z -> z.implicationAt(1, false),
      z -> z.question(false), z -> z.ranking(6, 5), z -> z.relatedShare(6), z -> z.meanIdeal(6),
      z -> z.isSound()
    };
    for (int i = 0; i < asks.length; i++) {
      Edges.Ask ask = asks[i];
      edges.onlyAsks(rich, "call " + i, ask);
      edges.answers(rich, "rules, values, who prefer, things and orders after call " + i, z -> {
        ask.of(z);
        return z.accept() + " " + z.wipe() + " " + z.prefer(3, 1, 0) + " " + z.table(0, 1) + " "
            + z.clear();
      }, "2 3 7 1 7");
    }
  }
}
