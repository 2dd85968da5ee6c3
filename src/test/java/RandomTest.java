import java.lang.reflect.InvocationTargetException;
import java.lang.reflect.Method;
import java.util.Map;
import java.util.TreeMap;

/** Long runs of calls, each answered by the class and by the oracle, which tries all out. */
public final class RandomTest {
  // Each method with what its arguments are: o order, e element, i interval or relation of two
  // elements, s set, r row, v value, n small number, k kind, m marks, b whether, x -9 to 9.
  private static final String[] CALLS = {
    "order N", "relate o e e", "divisors d", "subsets n", "dual o", "sum o o b", "product o o",
    "intervals o", "size o", "above o e", "covers o e", "rank o e", "isRanked o", "areAlike o o",
    "width o", "antichain o", "inChains o N", "chains o", "isSymmetric o", "moebius o e e",
    "rowsBetween o e e n", "euler o", "characteristic o x", "rows o", "rowAt o r e", "promote o r",
    "evacuate o r", "jumps o", "balance o", "questions o", "dimension o", "isOfIntervals o b",
    "isLattice o", "join o e e", "meet o e e", "isOfKind o k", "joined o", "congruences o",
    "doubled o e e", "ideals o", "cuts o", "part o s", "idealCount o", "toggle o s e", "turn o s",
    "orbit o s b", "type e", "wipe", "keeps o o", "adjoint o o e", "fixed o e", "core o",
    "alwaysFixed o", "embeds o o", "schedule o N", "table n n", "cross n n b", "concepts",
    "conceptAt n b", "conceptOrder", "implications", "implicationAt n b", "explore n", "question b",
    "accept", "refuse s", "prefer n n v", "ranking n n", "relatedShare o", "meanIdeal o", "isSound"
  };

  private static final Check check = new Check("RandomTest");
  private static final Map<String, int[]> seen = new TreeMap<>();
  private static long state = 20261119;

  private static int pick(int many) {
    state = state * 6364136223846793005L + 1442695040888963407L;
    return (int) ((state >>> 33) % many);
  }

  public static void main(String[] args) throws Exception {
    for (int run = 0; run < 900; run++) {
      run(run);
    }
    for (String call : CALLS) {
      String name = call.split(" ")[0];
      check.isTrue(name + " was answered", seen.getOrDefault(name, new int[2])[0] > 0);
    }
    check.end();
  }

  private static void run(int run) throws Exception {
    Zetaposet z = new Zetaposet();
    Oracle oracle = new Oracle();
    for (int i = 0; i < 512; i++) {
      int phase = pick(8);
      if (phase == 0 && oracle.clearIsDue(pick(40))) {
        answer(z, oracle, "clear", new Object[0], run);
      } else if (phase == 1) {
        growOrder(z, oracle, run);
      } else if (phase == 2 && run % 3 == 0) {
        explore(z, oracle, run);
      } else {
        String[] words = CALLS[pick(CALLS.length)].split(" ");
        answer(z, oracle, words[0], arguments(words, oracle), run);
      }
    }
  }

  /** Relates two elements of an order, mostly upwards, so that orders of all kinds come. */
  private static void growOrder(Zetaposet z, Oracle oracle, int run) throws Exception {
    int order = pick(10);
    int size = oracle.sizeOr(order, 3);
    int one = pick(size);
    int other = pick(size);
    boolean isUp = pick(12) != 0;
    Object[] arguments = {order, isUp ? Math.min(one, other) : one, Math.max(one, other)};
    answer(z, oracle, "relate", arguments, run);
  }

  private static void explore(Zetaposet z, Oracle oracle, int run) throws Exception {
    int what = pick(6);
    if (what < 2) {
      answer(z, oracle, "accept", new Object[0], run);
    } else if (what < 5) {
      Object[] arguments = {oracle.refusal(pick(64), pick(64))};
      answer(z, oracle, "refuse", arguments, run);
    } else {
      answer(z, oracle, "explore", new Object[] {1 + pick(6)}, run);
    }
  }

  private static Object[] arguments(String[] words, Oracle oracle) {
    Object[] found = new Object[words.length - 1];
    int order = 0;
    for (int i = 0; i < found.length; i++) {
      char kind = words[i + 1].charAt(0);
      found[i] = argument(kind, oracle, order);
      order = kind == 'o' ? (Integer) found[i] : order;
    }
    return found;
  }

  private static Object argument(char kind, Oracle oracle, int order) {
    boolean isWild = pick(40) == 0;
    int wild = pick(3) == 0 ? Integer.MIN_VALUE + pick(3) : pick(2000) - 1000;
    switch (kind) {
      case 'o':
        return isWild ? wild : pick(Math.max(1, oracle.count()));
      case 'e':
        return isWild ? wild : pick(oracle.sizeOr(order, 4));
      case 's':
        return isWild ? wild : oracle.someSet(order, pick(4096), pick(4) == 0);
      case 'r':
        return isWild ? (long) wild << pick(33) : (long) pick(1 << pick(8));
      case 'b':
        return pick(2) == 0;
      case 'k':
        return isWild ? (char) pick(256) : "dmg".charAt(pick(3));
      case 'x':
        return isWild ? wild : pick(21) - 10;
      case 'd':
        return isWild ? wild : 1 + pick(1 << (1 + pick(17)));
      case 'v':
        return isWild ? wild : pick(pick(2) == 0 ? 5 : 1001);
      case 'N':
        return isWild ? wild : pick(14);
      default:
        return isWild ? wild : pick(9) - 1;
    }
  }

  private static Object call(Object target, String name, Object[] arguments) throws Exception {
    for (Method method : target.getClass().getDeclaredMethods()) {
      if (method.getName().equals(name)) {
        try {
          return method.invoke(target, arguments);
        } catch (InvocationTargetException e) {
          return e.getCause() instanceof Oracle.Skip ? e.getCause() : e.getCause().getClass();
        }
      }
    }
    throw new AssertionError("no such method: " + name);
  }

  private static void answer(Zetaposet z, Oracle oracle, String name, Object[] arguments, int run)
      throws Exception {
    Object due = call(oracle, name, arguments);
    Object got = call(z, name, arguments);
    if (!(due instanceof Oracle.Skip)) {
      check.is("run " + run + ": " + name + java.util.Arrays.toString(arguments), got, due);
      seen.computeIfAbsent(name, n -> new int[2])[due instanceof Class ? 1 : 0]++;
    }
  }
}
