import java.util.IdentityHashMap;
import java.util.Map;
import java.util.Set;
import java.util.TreeMap;
import java.util.TreeSet;

/**
 * Checks at the edges that the document names. Each check belongs to a sentence that is quoted
 * from it; at the end each sentence that names an edge must have had one.
 */
final class Edges {
  /** What is done before: done twice, it makes two objects that answer alike. */
  interface Build {
    void of(Zetaposet z);
  }

  interface Ask {
    Object of(Zetaposet z);
  }

  interface Numbered {
    Object of(Zetaposet z, int number);
  }

  interface OfElement {
    Object of(Zetaposet z, int order, int element);
  }

  static final Build EMPTY = z -> { };
  /** Orders of 1, 3 (0 below 1), 4 (two things' subsets) and 2 elements, and one of 1. */
  static final Build SOME = z -> {
    z.order(1);
    z.order(3);
    z.relate(1, 0, 1);
    z.subsets(2);
    z.order(2);
    z.order(1);
  };
  /** The same, and five more of 1 element. */
  static final Build FULL = z -> {
    SOME.of(z);
    for (int i = 5; i < 10; i++) {
      z.order(1);
    }
  };
  /** What was there was more than what is. */
  static final Build CLEARED = z -> {
    for (int i = 0; i < 10; i++) {
      z.order(12);
    }
    z.clear();
  };

  static final String NO_ORDER = "Throws `IndexOutOfBoundsException` if there is no such order";
  static final String NO_ORDER_OR_ELEMENT = NO_ORDER + " or element";
  static final String NO_ORDER_EITHER = NO_ORDER + ", for either";
  static final String TEN = "Throws `IllegalStateException` if there are 10 orders";
  static final String OUT = "Throws `IllegalArgumentException` if the number is out of range";
  static final String OVER_12 =
      "Throws `IllegalArgumentException` if it would have more than 12 elements";
  static final String CHANGES_NOTHING = "A method that throws an exception changes nothing.";
  static final String FIRST_IS_THROWN =
      "If several exceptions apply, the one that is documented first is thrown.";

  private final Document document = new Document();
  private final Check check;
  private final int from;
  private final int to;
  private final Map<Integer, Set<String>> quoted = new TreeMap<>();
  private final Map<Build, String> untouched = new IdentityHashMap<>();
  private String where = "";

  Edges(String test, int from, int to) {
    check = new Check(test);
    this.from = from;
    this.to = to;
  }

  /** From here on checks belong to this sentence. */
  void of(int promise, String sentence) {
    where = promise + ": " + sentence + " -- ";
    check.isTrue(where + "is said in the document", document.says(promise, sentence));
    quoted.computeIfAbsent(promise, p -> new TreeSet<>()).add(sentence);
  }

  void is(String what, Object got, Object due) {
    check.is(where + what, got, due);
  }

  void answers(Build build, String what, Ask ask, Object due) {
    Zetaposet z = new Zetaposet();
    build.of(z);
    is(what, ask.of(z), due);
  }

  /** The call throws what is due, and leaves the object as one that was not asked. */
  void refuses(Build build, String what, Class<? extends RuntimeException> due, Ask ask) {
    Zetaposet z = new Zetaposet();
    build.of(z);
    check.fails(where + what, due, () -> ask.of(z));
    is(what + ": " + CHANGES_NOTHING, Probe.of(z), untouched(build));
  }

  /** The call is answered, and leaves the object as one that was not asked. */
  void onlyAsks(Build build, String what, Ask ask) {
    Zetaposet z = new Zetaposet();
    build.of(z);
    check.isTrue(where + what + " is answered", ask.of(z) != null);
    is(what + " only asks", Probe.of(z), untouched(build));
  }

  private String untouched(Build build) {
    return untouched.computeIfAbsent(build, b -> {
      Zetaposet twin = new Zetaposet();
      b.of(twin);
      return Probe.of(twin);
    });
  }

  /** Each number of a range is taken; those beside it, far ones and those that wrap are not. */
  void range(int promise, String part, Build build, int least, int most, Numbered ask) {
    range(promise, part, OUT, build, least, most, ask);
  }

  void range(
      int promise, String part, String refusal, Build build, int least, int most, Numbered ask) {
    of(promise, part);
    for (int n : new int[] {least, least + 1, (least + most) / 2, most - 1, most}) {
      Zetaposet z = new Zetaposet();
      build.of(z);
      check.isTrue(where + n + " is taken", ask.of(z, n) != null);
    }
    of(promise, refusal);
    int[] others = {
      least - 1, most + 1, least - 100, most + 100, -32, least - 32, 32 + most, 256 + most,
      65536 + least, Integer.MIN_VALUE, Integer.MIN_VALUE + most, Integer.MAX_VALUE
    };
    for (int n : others) {
      if (n < least || n > most) {
        refuses(build, "" + n, Check.ARGUMENT, z -> ask.of(z, n));
      }
    }
  }

  void noOrder(int promise, String sentence, Numbered ask) {
    of(promise, sentence);
    noOrder(EMPTY, "no orders", 0, ask);
    noOrder(SOME, "five orders", 5, ask);
    noOrder(FULL, "ten orders", 10, ask);
    noOrder(CLEARED, "none any more", 0, ask);
  }

  private void noOrder(Build build, String what, int count, Numbered ask) {
    int[] never = {
      count, count + 1, 10, 11, 12, 32, 33, 64, 256, 65536, -1, -10, -32, -31, Integer.MIN_VALUE,
      Integer.MIN_VALUE + 1, Integer.MAX_VALUE
    };
    for (int order : never) {
      refuses(build, what + ", number " + order, Check.INDEX, z -> ask.of(z, order));
    }
  }

  /** Asked of order 1 of 3 elements, and of one of 12 elements. */
  void noElement(int promise, String sentence, OfElement ask) {
    of(promise, sentence);
    int[] never = {
      12, 13, 31, 32, 33, 43, 44, 64, 96, 256, 65536, -1, -12, -20, -31, -32, Integer.MIN_VALUE,
      Integer.MIN_VALUE + 2, Integer.MAX_VALUE
    };
    Build twelve = z -> z.order(12);
    for (int element : never) {
      refuses(SOME, "of three, element " + element, Check.INDEX, z -> ask.of(z, 1, element));
      refuses(twelve, "of twelve, element " + element, Check.INDEX, z -> ask.of(z, 0, element));
    }
    for (int element : new int[] {3, 4, 11, 35}) {
      refuses(SOME, "of three, element " + element, Check.INDEX, z -> ask.of(z, 1, element));
    }
    Build lesser = z -> {
      CLEARED.of(z);
      z.order(2);
    };
    refuses(lesser, "where there were more", Check.INDEX, z -> ask.of(z, 0, 2));
  }

  /** With 10 orders: refused; with 9 it is taken as the tenth. */
  void tenOrders(int promise, Ask ask) {
    of(promise, TEN);
    refuses(FULL, "the eleventh", Check.STATE, ask);
    Build nine = z -> {
      SOME.of(z);
      for (int i = 5; i < 9; i++) {
        z.order(1);
      }
    };
    answers(nine, "the tenth", ask, 9);
  }

  /** Several exceptions apply: the one that is documented first is due. */
  void first(Build build, String what, Class<? extends RuntimeException> due, Ask ask) {
    String before = where;
    of(0, FIRST_IS_THROWN);
    refuses(build, what, due, ask);
    where = before;
  }

  void end() {
    for (int promise = from; promise <= to; promise++) {
      Set<String> had = quoted.getOrDefault(promise, Set.of());
      for (String sentence : promise == 0 ? document.terms() : document.edges(promise)) {
        check.isTrue("a check of promise " + promise + ": " + sentence, had.contains(sentence));
      }
    }
    check.end();
  }
}
