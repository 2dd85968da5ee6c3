/** Long runs of calls, each answered by the class and by the oracle, which tries all out. */
public final class RandomTest {
  // Each method with what its arguments are: o order, e element, s set, r row, d divisible, v how
  // many, n and N small numbers, k kind, b whether, x -9 to 9; each now and then far from that.
  private static final String[] CALLS = {
    "order N", "relate o e e", "divisors d", "subsets n", "dual o", "sum o o b", "product o o",
    "intervals o", "size o", "above o e", "covers o e", "rank o e", "isRanked o", "areAlike o o",
    "width o", "antichain o", "inChains o N", "chains o", "isSymmetric o", "moebius o e e",
    "rowsBetween o e e n", "euler o", "characteristic o x", "rows o", "rowAt o r e", "promote o r",
    "evacuate o r", "jumps o", "balance o", "questions o", "dimension o", "isOfIntervals o b",
    "isLattice o", "join o e e", "meet o e e", "isOfKind o k", "joined o", "congruences o",
    "doubled o e e", "ideals o", "cuts o", "part o s", "idealCount o", "toggle o s e", "turn o s",
    "orbit o s b", "type e", "wipe", "keeps o o", "adjoint o o e", "fixed o e", "core o",
    "alwaysFixed o", "embeds o o", "schedule o N", "table n n", "cross n n b", "concepts",
    "conceptAt n b", "conceptOrder", "implications", "implicationAt n b", "explore n", "question b",
    "accept", "refuse s", "prefer n n v", "ranking n n", "relatedShare o", "meanIdeal o", "isSound"
  };

  private static final Check check = new Check("RandomTest");
  private static long state = 20261119;

  private static int pick(int many) {
    state = state * 6364136223846793005L + 1442695040888963407L;
    return (int) ((state >>> 33) % many);
  }

  public static void main(String[] args) {
    for (int run = 0; run < 900; run++) {
      run(run);
    }
    for (String call : CALLS) {
      String name = call.split(" ")[0];
      check.isTrue(name + " was answered", Both.ANSWERED.getOrDefault(name, 0) > 0);
    }
    check.end();
  }

  private static void run(int run) {
    Both both = new Both(check, "run " + run);
    for (int i = 0; i < 512; i++) {
      int phase = pick(8);
      if (phase == 0 && both.oracle.clearIsDue(pick(40))) {
        both.ask("clear");
      } else if (phase == 1) {
        growOrder(both);
      } else if (phase == 2 && run % 3 == 0) {
        explore(both);
      } else if (phase == 2 && run % 3 == 1 && pick(6) == 0) {
        askTable(both);
      } else if (phase == 2 && run % 3 == 2 && pick(6) == 0) {
        askMap(both);
      } else {
        String[] words = CALLS[pick(CALLS.length)].split(" ");
        both.ask(words[0], arguments(words, both.oracle));
      }
    }
  }

  /** Relates two elements of an order, mostly upwards, so that orders of all kinds come. */
  private static void growOrder(Both both) {
    int order = pick(10);
    int size = both.oracle.sizeOr(order, 3);
    int one = pick(size);
    int other = pick(size);
    boolean isUp = pick(12) != 0;
    both.ask("relate", order, isUp ? Math.min(one, other) : one, Math.max(one, other));
  }

  private static void explore(Both both) {
    int what = pick(6);
    if (what < 2) {
      both.ask("accept");
    } else if (what < 5) {
      both.ask("refuse", both.oracle.refusal(pick(64), pick(64)));
    } else {
      both.ask("explore", 1 + pick(6));
    }
  }

  private static void askTable(Both both) {
    int things = pick(7);
    int marks = 1 + pick(6);
    int many = 1 + pick(4);
    both.ask("table", things, marks);
    for (int i = 0; i < things * marks; i++) {
      both.ask("cross", i / marks, i % marks, pick(4) < many);
    }
    both.ask("implicationAt", 0, true);
    both.ask("concepts");
    for (int i = 0; i < 20; i++) {
      both.ask("conceptAt", i, i % 3 == 0);
      both.ask("implicationAt", i / 2, i % 2 == 0);
    }
    both.ask("conceptOrder");
    both.ask("isSound");
  }

  private static void askMap(Both both) {
    int order = pick(Math.max(1, both.oracle.count()));
    int other = pick(3) == 0 ? order : pick(Math.max(1, both.oracle.count()));
    int size = both.oracle.sizeOr(other, 12);
    int style = pick(3);
    int value = pick(size);
    both.ask("wipe");
    for (int x = 0; x < both.oracle.sizeOr(order, 3); x++) {
      value = style == 0 ? pick(size) : Math.min(size - 1, value + (pick(3) == 0 ? 1 : 0));
      value = style == 2 && x == 0 ? 0 : value;
      both.ask("type", value);
    }
    both.ask("keeps", order, other);
    both.ask("keeps", other, order);
    for (int y = 0; y < size; y++) {
      both.ask("adjoint", order, other, y);
      both.ask("fixed", order, y);
    }
  }

  private static Object[] arguments(String[] words, Oracle oracle) {
    Object[] found = new Object[words.length - 1];
    int order = 0;
    for (int i = 0; i < found.length; i++) {
      char kind = words[i + 1].charAt(0);
      found[i] = argument(kind, oracle, order);
      order = kind == 'o' ? (Integer) found[i] : order;
    }
    return found;
  }

  private static Object argument(char kind, Oracle oracle, int order) {
    boolean isWild = pick(40) == 0;
    int wild = pick(3) == 0 ? Integer.MIN_VALUE + pick(3) : pick(2000) - 1000;
    switch (kind) {
      case 'o':
        return isWild ? wild : pick(Math.max(1, oracle.count()));
      case 'e':
        return isWild ? wild : pick(oracle.sizeOr(order, 4));
      case 's':
        return isWild ? wild : oracle.someSet(order, pick(4096), pick(4) == 0);
      case 'r':
        return isWild ? (long) wild << pick(33) : (long) pick(1 << pick(8));
      case 'b':
        return pick(2) == 0;
      case 'k':
        return isWild ? (char) pick(256) : "dmg".charAt(pick(3));
      case 'x':
        return isWild ? wild : pick(21) - 10;
      case 'd':
        return isWild ? wild : 1 + pick(1 << (1 + pick(17)));
      case 'v':
        return isWild ? wild : pick(pick(2) == 0 ? 5 : 1001);
      case 'N':
        return isWild ? wild : pick(14);
      default:
        return isWild ? wild : pick(9) - 1;
    }
  }
}
