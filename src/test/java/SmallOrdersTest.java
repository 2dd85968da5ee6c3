import java.util.HashSet;
import java.util.Set;

/**
 * All orders of up to five elements that are numbered upwards, and those of six for what is asked
 * of small ones, each as it is and numbered otherwise: whatever can be asked is asked.
 */
public final class SmallOrdersTest {
  private static final Check check = new Check("SmallOrdersTest");
  private static final String[] ONE = {
    "size", "isRanked", "width", "antichain", "chains", "isSymmetric", "euler", "rows", "jumps",
    "balance", "questions", "dimension", "isLattice", "joined", "congruences", "idealCount", "core",
    "alwaysFixed", "relatedShare", "meanIdeal"
  };
  private static final String[] OF_ELEMENT = {"above", "covers", "rank"};
  private static final String[] OF_TWO = {"moebius", "join", "meet"};
  private static final String[] MAKING = {"dual", "intervals", "ideals", "cuts"};
  private static final String[] LATE = {
    "isRanked", "isSymmetric", "isLattice", "joined", "congruences", "jumps", "core", "width"
  };

  public static void main(String[] args) {
    for (int size = 1; size <= 5; size++) {
      for (long order : allOrders(size)) {
        askAll(size, order, false);
        askAll(size, order, true);
      }
    }
    for (long order : allOrders(6)) {
      askSome(6, order);
    }
    check.end();
  }

  /** Each order as the sum of 2 to the power of 8 x + y for each x below y. */
  private static Set<Long> allOrders(int size) {
    Set<Long> found = new HashSet<>();
    int pairs = size * (size - 1) / 2;
    for (int some = 0; some < 1 << pairs; some++) {
      long order = 0;
      int at = 0;
      for (int x = 0; x < size; x++) {
        for (int y = x + 1; y < size; y++) {
          order |= (some >> at & 1) != 0 ? 1L << (8 * x + y) : 0;
          at++;
        }
      }
      if (isWhole(size, order)) {
        found.add(order);
      }
    }
    return found;
  }

  private static boolean isWhole(int size, long order) {
    for (int x = 0; x < size; x++) {
      for (int y = x + 1; y < size; y++) {
        for (int z = y + 1; z < size; z++) {
          if (has(order, x, y) && has(order, y, z) && !has(order, x, z)) {
            return false;
          }
        }
      }
    }
    return true;
  }

  private static boolean has(long order, int x, int y) {
    return (order >> (8 * x + y) & 1) != 0;
  }

  private static Both make(int size, long order, int step, int shift) {
    Both both = new Both(check, "order " + size + " " + Long.toHexString(order) + " by " + step);
    both.ask("order", size);
    for (int x = 0; x < size; x++) {
      for (int y = 0; y < size; y++) {
        if (has(order, x, y)) {
          both.ask("relate", 0, (x * step + shift) % size, (y * step + shift) % size);
        }
      }
    }
    return both;
  }

  private static void askAll(int size, long order, boolean isTurned) {
    Both both = make(size, order, isTurned ? size - 1 : 1, isTurned ? size - 1 : 0);
    for (String name : ONE) {
      both.ask(name, 0);
    }
    for (int k = 0; k < 5; k++) {
      both.ask("inChains", 0, k);
      both.ask("schedule", 0, k);
      both.ask("characteristic", 0, 4 * k - 9);
    }
    for (int x = 0; x < size; x++) {
      for (String name : OF_ELEMENT) {
        both.ask(name, 0, x);
      }
      for (int y = 0; y < size; y++) {
        for (String name : OF_TWO) {
          both.ask(name, 0, x, y);
        }
        both.ask("rowsBetween", 0, x, y, 3);
      }
    }
    for (char kind : new char[] {'d', 'm', 'g'}) {
      both.ask("isOfKind", 0, kind);
    }
    both.ask("isOfIntervals", 0, false);
    both.ask("isOfIntervals", 0, true);
    for (int set = -1; set <= 1 << size; set++) {
      both.ask("turn", 0, set);
      both.ask("orbit", 0, set, set % 2 == 0);
      both.ask("toggle", 0, set, (set + 1) % size);
    }
    for (long row = 0; row < 12; row++) {
      both.ask("rowAt", 0, row * 5, (int) row % size);
      both.ask("promote", 0, row * 5);
      both.ask("evacuate", 0, row * 5);
    }
    askMade(both, size);
  }

  private static void askMade(Both both, int size) {
    for (String name : MAKING) {
      both.ask(name, 0);
    }
    both.ask("doubled", 0, 0, size - 1);
    both.ask("doubled", 0, size - 1, 0);
    both.ask("doubled", 0, size / 2, size / 2);
    both.ask("part", 0, (1 << size) - 2);
    both.ask("part", 0, (1 << size) * 2 / 3);
    for (int made = 1; made < both.oracle.count(); made++) {
      for (int x = 0; x < both.oracle.sizeOr(made, 0); x++) {
        both.ask("above", made, x);
      }
      for (String name : LATE) {
        both.ask(name, made);
      }
      both.ask("areAlike", 0, made);
      both.ask("embeds", 0, made);
      both.ask("embeds", made, 0);
    }
    both.ask("isSound");
  }

  private static void askSome(int size, long order) {
    Both both = make(size, order, 5, (int) (order % 6));
    for (String name : ONE) {
      both.ask(name, 0);
    }
    for (int k = 1; k < 4; k++) {
      both.ask("schedule", 0, k);
    }
    for (char kind : new char[] {'d', 'm', 'g'}) {
      both.ask("isOfKind", 0, kind);
    }
    both.ask("isOfIntervals", 0, false);
    both.ask("isOfIntervals", 0, true);
  }
}
