/** The edges of promises 58 to 68: tables of crosses, concepts, implications and exploring. */
public final class CrossEdgesTest {
  private static final Edges edges = new Edges("CrossEdgesTest", 58, 68);

  /** Three things with 3, 2 and 6 of three marks. */
  private static final Edges.Build TABLE = table(3, 3, 2, 6);
  private static final Edges.Build GREATEST = z -> z.table(6, 6);
  private static final Edges.Build NO_THINGS = z -> z.table(0, 6);
  /** All sets are concepts. */
  private static final Edges.Build FREE = table(6, 62, 61, 59, 55, 47, 31);
  private static final Edges.Build EXPLORING = z -> {
    TABLE.of(z);
    z.explore(3);
  };
  /** One thing, that has mark 1 alone, and a rule; the question is {0, 1} to {0, 1, 2}. */
  private static final Edges.Build MIDWAY = z -> {
    EXPLORING.of(z);
    z.refuse(2);
    z.accept();
  };
  private static final Edges.Build ENDED = z -> {
    MIDWAY.of(z);
    z.accept();
    z.accept();
  };
  /** Six things: none, and each mark but the last one alone; the question is {5} to all. */
  private static final Edges.Build SIX = z -> {
    z.explore(6);
    z.refuse(0);
    for (int mark = 0; mark < 5; mark++) {
      z.refuse(1 << mark);
    }
  };
  private static final String NO_QUESTION =
      "Throws `NoSuchElementException` if there is no question";

  public static void main(String[] args) {
    table();
    cross();
    exploredCross();
    concepts();
    conceptAt();
    conceptOrder();
    implications();
    implicationAt();
    explore();
    question();
    accept();
    refuse();
    refusals();
    edges.end();
  }

  /** A table by its things, each one by its set of marks. */
  private static Edges.Build table(int marks, int... things) {
    return z -> {
      z.table(things.length, marks);
      for (int thing = 0; thing < things.length; thing++) {
        for (int mark = 0; mark < marks; mark++) {
          if ((things[thing] >> mark & 1) != 0) {
            z.cross(thing, mark, true);
          }
        }
      }
    };
  }

  private static void table() {
    String out = "Throws `IllegalArgumentException` if a number is out of range";
    for (Edges.Build build : new Edges.Build[] {TABLE, MIDWAY, ENDED}) {
      edges.range(58, "- `things`: how many things, 0 to 6", out, build, 0, 6,
          (z, n) -> z.table(n, 6));
      edges.range(58, "- `marks`: how many marks, 1 to 6", out, build, 1, 6,
          (z, n) -> z.table(0, n));
      edges.refuses(build, "neither", Check.ARGUMENT, z -> z.table(7, 0));
    }
    edges.of(58, "Returns how many things there were.");
    edges.answers(Edges.EMPTY, "none", z -> z.table(6, 6), 0);
    edges.answers(GREATEST, "six", z -> z.table(0, 1), 6);
    edges.answers(NO_THINGS, "none again", z -> z.table(0, 1), 0);
    edges.answers(TABLE, "three", z -> z.table(0, 1), 3);
    edges.answers(EXPLORING, "none explored", z -> z.table(0, 1), 0);
    edges.answers(MIDWAY, "one explored", z -> z.table(0, 1), 1);
    edges.answers(SIX, "six explored", z -> z.table(0, 1), 6);
    edges.of(58, "Makes a table without crosses; exploring ends.");
    for (Edges.Build build : new Edges.Build[] {TABLE, GREATEST, FREE, MIDWAY, ENDED, SIX}) {
      Edges.Build anew = z -> {
        build.of(z);
        z.table(6, 6);
      };
      edges.answers(anew, "no thing has a mark", z -> z.conceptAt(0, true), 63);
      edges.answers(anew, "so that there are two concepts", z -> z.concepts(), 2);
      edges.answers(anew, "a cross can be set", z -> z.cross(5, 5, true), false);
      edges.refuses(anew, "no question", Check.NONE, z -> z.question(true));
      edges.refuses(anew, "nothing to accept", Check.NONE, z -> z.accept());
      edges.refuses(anew, "nothing to refuse", Check.NONE, z -> z.refuse(0));
    }
  }

  private static void cross() {
    edges.of(59, "Throws `IndexOutOfBoundsException` if there is no such thing or mark");
    int[] never = {
      6, 7, 8, 12, 31, 32, 33, 38, 64, 256, -1, -6, -32, -31, Integer.MIN_VALUE,
      Integer.MIN_VALUE + 1, Integer.MAX_VALUE
    };
    for (int n : never) {
      for (boolean is : new boolean[] {false, true}) {
        edges.refuses(GREATEST, "thing " + n, Check.INDEX, z -> z.cross(n, 0, is));
        edges.refuses(GREATEST, "mark " + n, Check.INDEX, z -> z.cross(0, n, is));
        edges.refuses(TABLE, "of three, thing " + n, Check.INDEX, z -> z.cross(n, 2, is));
        edges.refuses(TABLE, "of three, mark " + n, Check.INDEX, z -> z.cross(2, n, is));
      }
      edges.refuses(NO_THINGS, "no things, thing " + n, Check.INDEX, z -> z.cross(n, 0, true));
    }
    edges.refuses(TABLE, "of three, thing 3", Check.INDEX, z -> z.cross(3, 0, true));
    edges.refuses(TABLE, "of three, mark 3", Check.INDEX, z -> z.cross(0, 3, true));
    edges.refuses(NO_THINGS, "no things", Check.INDEX, z -> z.cross(0, 0, false));
    edges.refuses(Edges.EMPTY, "nor at first", Check.INDEX, z -> z.cross(0, 0, true));
    edges.of(59, "Returns whether there was one.");
    for (int thing = 0; thing < 6; thing++) {
      int at = thing;
      edges.answers(GREATEST, "none", z -> z.cross(at, 5 - at, true), false);
      edges.answers(FREE, "none", z -> z.cross(at, at, false), false);
      edges.answers(FREE, "one", z -> z.cross(at, 5 - at, false), true);
      edges.answers(FREE, "and none then", z -> {
        z.cross(at, 5 - at, false);
        return z.cross(at, 5 - at, true);
      }, false);
      edges.answers(FREE, "another thing keeps it", z -> {
        z.cross((at + 1) % 6, 5 - at, false);
        return z.cross(at, 5 - at, true);
      }, true);
    }
  }

  private static void exploredCross() {
    edges.of(59,
        "Throws `IllegalStateException` since exploring was begun, until a table is made");
    for (boolean is : new boolean[] {false, true}) {
      edges.refuses(MIDWAY, "midway", Check.STATE, z -> z.cross(0, 0, is));
      edges.refuses(ENDED, "when it has ended", Check.STATE, z -> z.cross(0, 1, is));
      edges.refuses(SIX, "the last ones", Check.STATE, z -> z.cross(5, 5, is));
    }
    edges.answers(z -> {
      ENDED.of(z);
      z.table(1, 1);
    }, "when a table is made", z -> z.cross(0, 0, true), false);
    edges.first(EXPLORING, "exploring, no things", Check.INDEX, z -> z.cross(0, 0, true));
    edges.first(MIDWAY, "exploring, one thing", Check.INDEX, z -> z.cross(1, 0, true));
    edges.first(MIDWAY, "exploring, three marks", Check.INDEX, z -> z.cross(0, 3, true));
    edges.first(ENDED, "ended, one thing", Check.INDEX, z -> z.cross(-1, 0, true));
  }

  private static void concepts() {
    edges.of(60, "Returns the number of concepts.");
    edges.answers(NO_THINGS, "all marks, of no things", z -> z.concepts(), 1);
    edges.answers(GREATEST, "none and all", z -> z.concepts(), 2);
    edges.answers(table(6, 63, 63, 63, 63, 63, 63), "all of all", z -> z.concepts(), 1);
    edges.answers(FREE, "each set", z -> z.concepts(), 64);
    edges.answers(table(1, 0), "one mark that none has", z -> z.concepts(), 2);
    edges.answers(table(1, 1), "one mark that all have", z -> z.concepts(), 1);
    edges.answers(EXPLORING, "exploring, no things", z -> z.concepts(), 1);
    edges.answers(MIDWAY, "exploring, one thing", z -> z.concepts(), 2);
    edges.answers(SIX, "exploring, six things", z -> z.concepts(), 7);
  }

  private static void conceptAt() {
    edges.of(61, "Throws `IndexOutOfBoundsException` if there is no such concept");
    int[] never = {
      64, 65, 128, 256, -1, -64, Integer.MIN_VALUE, Integer.MIN_VALUE + 1, Integer.MAX_VALUE
    };
    for (boolean areThings : new boolean[] {false, true}) {
      for (int index : never) {
        edges.refuses(FREE, "" + index, Check.INDEX, z -> z.conceptAt(index, areThings));
        edges.refuses(NO_THINGS, "" + index, Check.INDEX, z -> z.conceptAt(index, areThings));
      }
      edges.refuses(NO_THINGS, "a second one", Check.INDEX, z -> z.conceptAt(1, areThings));
      edges.refuses(TABLE, "a fifth one", Check.INDEX, z -> z.conceptAt(4, areThings));
      edges.refuses(MIDWAY, "a third one", Check.INDEX, z -> z.conceptAt(2, areThings));
    }
    edges.of(61, "- `index`: the index, from 0");
    for (int i = 0; i < 64; i++) {
      int index = i;
      edges.answers(FREE, "marks", z -> z.conceptAt(index, false), i);
      edges.answers(FREE, "things", z -> z.conceptAt(index, true), 63 - i);
    }
    edges.answers(NO_THINGS, "all marks", z -> z.conceptAt(0, false), 63);
    edges.answers(NO_THINGS, "no things", z -> z.conceptAt(0, true), 0);
  }

  private static void conceptOrder() {
    Edges.Build twelve = table(4, 12, 11, 13, 7);
    Edges.Build thirteen = table(4, 11, 8, 5, 14, 7);
    edges.of(62, Edges.OVER_12);
    edges.answers(twelve, "it has 12", z -> z.concepts(), 12);
    edges.answers(thirteen, "it has 13", z -> z.concepts(), 13);
    edges.answers(twelve, "12", z -> z.size(z.conceptOrder()), 12);
    edges.refuses(thirteen, "13", Check.ARGUMENT, z -> z.conceptOrder());
    edges.refuses(FREE, "64", Check.ARGUMENT, z -> z.conceptOrder());
    edges.tenOrders(62, z -> z.conceptOrder());
    Edges.Build both = z -> {
      thirteen.of(z);
      Edges.FULL.of(z);
    };
    edges.first(both, "13, and 10 orders", Check.ARGUMENT, z -> z.conceptOrder());
    edges.of(62, "Returns its number.");
    edges.answers(NO_THINGS, "of one concept", z -> z.size(z.conceptOrder()), 1);
    edges.answers(Edges.SOME, "the next one", z -> z.conceptOrder(), 5);
    edges.answers(twelve, "none above that of all things", z -> z.above(z.conceptOrder(), 0), 0);
    edges.answers(twelve, "all above that of none", z -> z.above(z.conceptOrder(), 11), 2047);
  }

  private static void implications() {
    edges.of(63, "Returns the number of implications.");
    edges.answers(FREE, "none, as all sets are closed", z -> z.implications(), 0);
    edges.answers(NO_THINGS, "one, of nothing", z -> z.implications(), 1);
    edges.answers(GREATEST, "one of each mark", z -> z.implications(), 6);
    edges.answers(table(6, 63), "of nothing to all", z -> z.implications(), 1);
    edges.answers(table(1, 0, 1), "none of one mark", z -> z.implications(), 0);
    edges.answers(SIX, "exploring", z -> z.implications(), 11);
    edges.answers(ENDED, "when it has ended", z -> z.implications(), 3);
  }

  private static void implicationAt() {
    edges.of(64, "Throws `IndexOutOfBoundsException` if there is no such implication");
    int[] never = {
      6, 7, 11, 63, 64, 65, 256, -1, -6, Integer.MIN_VALUE, Integer.MIN_VALUE + 1,
      Integer.MAX_VALUE
    };
    for (boolean isPremise : new boolean[] {false, true}) {
      for (int index : never) {
        edges.refuses(GREATEST, "" + index, Check.INDEX, z -> z.implicationAt(index, isPremise));
        edges.refuses(FREE, "" + index, Check.INDEX, z -> z.implicationAt(index, isPremise));
      }
      edges.refuses(FREE, "there is none", Check.INDEX, z -> z.implicationAt(0, isPremise));
      edges.refuses(NO_THINGS, "a second one", Check.INDEX, z -> z.implicationAt(1, isPremise));
      edges.refuses(z -> {
        GREATEST.of(z);
        z.implications();
        NO_THINGS.of(z);
      }, "where there were more", Check.INDEX, z -> z.implicationAt(1, isPremise));
    }
    edges.of(64, "- `index`: the index, from 0");
    for (int i = 0; i < 6; i++) {
      int index = i;
      edges.answers(GREATEST, "premise", z -> z.implicationAt(index, true), 1 << i);
      edges.answers(GREATEST, "conclusion", z -> z.implicationAt(index, false), 63);
    }
    edges.answers(NO_THINGS, "of nothing", z -> z.implicationAt(0, true), 0);
    edges.answers(NO_THINGS, "to all", z -> z.implicationAt(0, false), 63);
  }

  private static void explore() {
    for (Edges.Build build : new Edges.Build[] {TABLE, MIDWAY, ENDED}) {
      edges.range(65, "- `marks`: how many marks, 1 to 6", build, 1, 6, (z, n) -> z.explore(n));
    }
    edges.of(65, "Returns the premise of the first question, which is the empty set.");
    for (Edges.Build build : new Edges.Build[] {Edges.EMPTY, FREE, MIDWAY, ENDED, SIX}) {
      for (int n = 1; n <= 6; n++) {
        int marks = n;
        edges.answers(build, n + " marks", z -> z.explore(marks), 0);
        Edges.Build begun = z -> {
          build.of(z);
          z.explore(marks);
        };
        edges.answers(begun, "all is concluded", z -> z.question(false), (1 << n) - 1);
        edges.answers(begun, "no things", z -> z.table(0, 1), 0);
        edges.answers(begun, "no rules", z -> z.accept(), 1);
      }
    }
  }

  private static void question() {
    edges.of(66, "Throws `NoSuchElementException` if nothing is explored, or it has ended");
    for (boolean isPremise : new boolean[] {false, true}) {
      edges.refuses(Edges.EMPTY, "nothing", Check.NONE, z -> z.question(isPremise));
      edges.refuses(TABLE, "a table", Check.NONE, z -> z.question(isPremise));
      edges.refuses(ENDED, "ended", Check.NONE, z -> z.question(isPremise));
      edges.refuses(z -> {
        MIDWAY.of(z);
        z.table(2, 2);
      }, "a table while exploring", Check.NONE, z -> z.question(isPremise));
      edges.refuses(z -> {
        z.explore(1);
        z.accept();
      }, "ended at once", Check.NONE, z -> z.question(isPremise));
      edges.refuses(z -> {
        z.explore(1);
        z.refuse(0);
      }, "ended by a thing", Check.NONE, z -> z.question(isPremise));
    }
    edges.of(66, "Returns the set.");
    edges.answers(EXPLORING, "the first premise", z -> z.question(true), 0);
    edges.answers(EXPLORING, "the first conclusion", z -> z.question(false), 7);
    edges.answers(MIDWAY, "the next premise", z -> z.question(true), 3);
    edges.answers(MIDWAY, "the next conclusion", z -> z.question(false), 7);
    edges.answers(SIX, "six things", z -> z.question(true), 32);
  }

  private static void accept() {
    edges.of(67, NO_QUESTION);
    edges.refuses(Edges.EMPTY, "nothing", Check.NONE, z -> z.accept());
    edges.refuses(TABLE, "a table", Check.NONE, z -> z.accept());
    edges.refuses(ENDED, "ended", Check.NONE, z -> z.accept());
    edges.of(67, "Returns how many rules are accepted.");
    edges.answers(EXPLORING, "the first", z -> z.accept(), 1);
    edges.answers(MIDWAY, "the second", z -> z.accept(), 2);
    edges.answers(z -> {
      MIDWAY.of(z);
      z.explore(3);
    }, "the first again", z -> z.accept(), 1);
    edges.answers(SIX, "with six things", z -> z.accept(), 1);
    edges.answers(z -> {
      SIX.of(z);
      for (int i = 0; i < 10; i++) {
        z.accept();
      }
    }, "the last of many", z -> z.accept(), 11);
  }

  private static void refuse() {
    edges.of(68, NO_QUESTION);
    for (int marks : new int[] {0, 1, 7, 8, -1}) {
      edges.refuses(Edges.EMPTY, "nothing", Check.NONE, z -> z.refuse(marks));
      edges.refuses(TABLE, "a table", Check.NONE, z -> z.refuse(marks));
      edges.refuses(ENDED, "ended", Check.NONE, z -> z.refuse(marks));
      edges.first(ENDED, "no question, whatever the marks", Check.NONE, z -> z.refuse(marks));
    }
    Edges.Build full = z -> {
      SIX.of(z);
      for (int i = 0; i < 11; i++) {
        z.accept();
      }
    };
    edges.first(full, "no question, six things", Check.NONE, z -> z.refuse(0));
    edges.of(68, "Throws `IllegalArgumentException` if there are no such marks, "
        + "it has not the premise, or all of the conclusion");
    int[] never = {
      8, 9, 15, 16, 32, 64, 256, -1, -8, -7, 1 << 31, 1 << 31 | 1, Integer.MAX_VALUE, 65536
    };
    for (int marks : never) {
      edges.refuses(EXPLORING, "no such marks, " + marks, Check.ARGUMENT, z -> z.refuse(marks));
      edges.refuses(MIDWAY, "no such marks, " + marks, Check.ARGUMENT, z -> z.refuse(marks | 3));
    }
    edges.refuses(z -> z.explore(6), "of six", Check.ARGUMENT, z -> z.refuse(64));
    for (int marks : new int[] {0, 1, 2, 4, 5, 6}) {
      edges.refuses(MIDWAY, "not the premise, " + marks, Check.ARGUMENT, z -> z.refuse(marks));
    }
    edges.refuses(EXPLORING, "all of the conclusion", Check.ARGUMENT, z -> z.refuse(7));
    edges.refuses(MIDWAY, "all of the next conclusion", Check.ARGUMENT, z -> z.refuse(7));
    edges.refuses(z -> {
      z.explore(3);
      z.refuse(3);
    }, "all of a conclusion that is not all", Check.ARGUMENT, z -> z.refuse(3));
    edges.refuses(z -> {
      z.explore(3);
      z.refuse(3);
    }, "and more", Check.ARGUMENT, z -> z.refuse(7));
    edges.first(SIX, "six things, no such marks", Check.ARGUMENT, z -> z.refuse(64));
    edges.first(SIX, "six things, not the premise", Check.ARGUMENT, z -> z.refuse(31));
    edges.first(SIX, "six things, all of the conclusion", Check.ARGUMENT, z -> z.refuse(63));
  }

  private static void refusals() {
    edges.of(68, "Throws `UnsupportedOperationException` if an accepted rule does not hold for it, "
        + "or there are 6 things");
    // The rule: mark 0 has all; the question is mark 1.
    Edges.Build ruled = z -> {
      z.explore(3);
      z.refuse(0);
      z.accept();
    };
    edges.answers(ruled, "the question", z -> z.question(true), 2);
    edges.refuses(ruled, "0 and 1, but not 2", Check.UNSUPPORTED, z -> z.refuse(3));
    edges.first(ruled, "0, without the premise", Check.ARGUMENT, z -> z.refuse(1));
    edges.first(ruled, "0 and 2, without the premise", Check.ARGUMENT, z -> z.refuse(5));
    edges.answers(ruled, "not 0", z -> z.refuse(6), 2);
    edges.refuses(SIX, "six things", Check.UNSUPPORTED, z -> z.refuse(32));
    edges.refuses(SIX, "six things, more marks", Check.UNSUPPORTED, z -> z.refuse(32 + 16));
    Edges.Build both = z -> {
      SIX.of(z);
      z.accept();
    };
    edges.answers(both, "the next question", z -> z.question(true), 3);
    edges.refuses(both, "neither a rule nor room", Check.UNSUPPORTED, z -> z.refuse(3 + 32));
    edges.refuses(both, "a rule, but no room", Check.UNSUPPORTED, z -> z.refuse(3));
    edges.of(68, "Returns how many things there are.");
    edges.answers(EXPLORING, "the first, with none", z -> z.refuse(0), 1);
    edges.answers(MIDWAY, "the second", z -> z.refuse(3), 2);
    Edges.Build five = z -> {
      z.explore(6);
      z.refuse(0);
      for (int mark = 0; mark < 4; mark++) {
        z.refuse(1 << mark);
      }
    };
    edges.answers(five, "the sixth", z -> z.refuse(16), 6);
    edges.answers(z -> {
      SIX.of(z);
      z.explore(6);
    }, "the first again", z -> z.refuse(62), 1);
  }
}
