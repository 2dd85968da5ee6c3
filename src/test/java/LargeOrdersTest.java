import java.util.ArrayList;
import java.util.Arrays;
import java.util.HashMap;
import java.util.List;
import java.util.Map;
import java.util.NoSuchElementException;
import java.util.Set;
import java.util.TreeSet;

/**
 * Orders of 7 to 12 elements, for the calls that the oracle leaves out there: what they answer is
 * found another way, of all rows one by one, by matchings, and by joins of congruences.
 */
public final class LargeOrdersTest {
  private static final int MOST_ROWS = 20000;
  private static final Check check = new Check("LargeOrdersTest");
  private static long state = 7311219;

  private static int pick(int many) {
    state = state * 6364136223846793005L + 1442695040888963407L;
    return (int) ((state >>> 33) % many);
  }

  public static void main(String[] args) {
    int fewRows = 0;
    int lattices = 0;
    for (int run = 0; run < 260; run++) {
      Zetaposet z = new Zetaposet();
      int size = 7 + run % 6;
      int order = some(z, size, 5 + pick(45));
      boolean[][] below = read(z, order);
      askChains(z, order, below);
      fewRows += askRows(z, order, below) ? 1 : 0;
      askParts(z, order, below);
      lattices += askCongruences(z, cutsOr(z, order)) ? 1 : 0;
    }
    for (int run = 0; run < 240; run++) {
      fewRows += nearlyChain() ? 1 : 0;
      lattices += ofConcepts() ? 1 : 0;
    }
    check.isTrue("enough with few rows: " + fewRows, fewRows >= 100);
    check.isTrue("enough lattices: " + lattices, lattices >= 150);
    check.end();
  }

  /** An order with so many pairs of a hundred put to it, its elements numbered anyhow. */
  private static int some(Zetaposet z, int size, int share) {
    int[] name = new int[size];
    for (int x = 0; x < size; x++) {
      int at = pick(x + 1);
      name[x] = name[at];
      name[at] = x;
    }
    int order = z.order(size);
    for (int x = 0; x < size; x++) {
      for (int y = x + 1; y < size; y++) {
        if (pick(100) < share) {
          z.relate(order, name[x], name[y]);
        }
      }
    }
    return order;
  }

  private static boolean[][] read(Zetaposet z, int order) {
    int size = z.size(order);
    boolean[][] below = new boolean[size][size];
    for (int x = 0; x < size; x++) {
      for (int y = 0; y < size; y++) {
        below[x][y] = (z.above(order, x) >> y & 1) != 0;
      }
    }
    return below;
  }

  // Chains: a set is as few chains as it has elements that are matched with none above.

  private static void askChains(Zetaposet z, int order, boolean[][] below) {
    int[] most = new int[14];
    for (int set = 0; set < 1 << below.length; set++) {
      int size = Integer.bitCount(set);
      int chains = size - matched(below, set);
      most[chains] = Math.max(most[chains], size);
    }
    int so = 0;
    for (int chains = 0; chains <= 12; chains++) {
      so = Math.max(so, most[chains]);
      check.is("inChains " + chains, z.inChains(order, chains), so);
    }
  }

  private static int matched(boolean[][] below, int set) {
    int[] to = new int[below.length];
    Arrays.fill(to, -1);
    int found = 0;
    for (int x = 0; x < below.length; x++) {
      if ((set >> x & 1) != 0 && match(below, set, to, x, new boolean[below.length])) {
        found++;
      }
    }
    return found;
  }

  private static boolean match(boolean[][] below, int set, int[] to, int x, boolean[] seen) {
    for (int y = 0; y < below.length; y++) {
      if ((set >> y & 1) != 0 && below[x][y] && !seen[y]) {
        seen[y] = true;
        if (to[y] < 0 || match(below, set, to, to[y], seen)) {
          to[y] = x;
          return true;
        }
      }
    }
    return false;
  }

  // Rows, one by one.

  private static List<int[]> rows(boolean[][] below) {
    List<int[]> found = new ArrayList<>();
    return goOn(below, new int[below.length], 0, 0, found) ? found : null;
  }

  private static boolean goOn(
      boolean[][] below, int[] row, int place, int begun, List<int[]> found) {
    if (place == row.length) {
      found.add(row.clone());
      return found.size() <= MOST_ROWS;
    }
    for (int x = 0; x < row.length; x++) {
      boolean isFree = (begun >> x & 1) == 0;
      for (int y = 0; y < row.length; y++) {
        isFree &= !below[y][x] || (begun >> y & 1) != 0;
      }
      if (isFree) {
        row[place] = x;
        if (!goOn(below, row, place + 1, begun | 1 << x, found)) {
          return false;
        }
      }
    }
    return true;
  }

  /** Whether there were few enough rows for questions. */
  private static boolean askRows(Zetaposet z, int order, boolean[][] below) {
    List<int[]> all = rows(below);
    if (all == null) {
      check.isTrue("many rows", z.rows(order) > MOST_ROWS);
      return false;
    }
    check.is("rows", z.rows(order), (long) all.size());
    check.is("jumps", z.jumps(order), fewestJumps(all, below));
    askBalance(z, order, all, below);
    Map<String, Long> numbers = new HashMap<>();
    for (int i = 0; i < all.size(); i++) {
      numbers.put(Arrays.toString(all.get(i)), (long) i);
    }
    for (int i = 0; i < 60; i++) {
      int row = all.size() <= 60 ? i % all.size() : pick(all.size());
      askRow(z, order, below, all.get(row), row, numbers);
    }
    check.fails("rowAt behind all", Check.ARGUMENT, () -> z.rowAt(order, all.size(), 0));
    if (all.size() > 30) {
      check.fails("questions of many", Check.UNSUPPORTED, () -> z.questions(order));
      return false;
    }
    check.is("questions", z.questions(order), questions(all));
    return true;
  }

  private static int fewestJumps(List<int[]> all, boolean[][] below) {
    int fewest = 99;
    for (int[] row : all) {
      int jumps = 0;
      for (int i = 1; i < row.length; i++) {
        jumps += below[row[i - 1]][row[i]] ? 0 : 1;
      }
      fewest = Math.min(fewest, jumps);
    }
    return fewest;
  }

  private static void askBalance(Zetaposet z, int order, List<int[]> all, boolean[][] below) {
    int size = below.length;
    long[][] ahead = new long[size][size];
    for (int[] row : all) {
      for (int i = 0; i < size; i++) {
        for (int j = i + 1; j < size; j++) {
          ahead[row[i]][row[j]]++;
        }
      }
    }
    long best = 0;
    for (int x = 0; x < size; x++) {
      for (int y = 0; y < x; y++) {
        best = Math.max(best, Math.min(ahead[x][y], ahead[y][x]));
      }
    }
    if (all.size() == 1) {
      check.fails("balance of a chain", NoSuchElementException.class, () -> z.balance(order));
    } else {
      check.is("balance", z.balance(order), best);
    }
  }

  private static void askRow(Zetaposet z, int order, boolean[][] below, int[] row, int number,
      Map<String, Long> numbers) {
    for (int place = 0; place < row.length; place++) {
      check.is("rowAt", z.rowAt(order, number, place), row[place]);
    }
    int[] once = toggledOn(below, row, row.length);
    check.is("promote", z.promote(order, number), numbers.get(Arrays.toString(once)));
    int[] all = row;
    for (int length = row.length; length > 1; length--) {
      all = toggledOn(below, all, length);
    }
    long due = numbers.get(Arrays.toString(all));
    check.is("evacuate", z.evacuate(order, number), due);
    check.is("evacuate twice", z.evacuate(order, due), (long) number);
  }

  /** Promoting is the same as changing the places of neighbours that are not related, in turn. */
  private static int[] toggledOn(boolean[][] below, int[] row, int length) {
    int[] made = row.clone();
    for (int i = 1; i < length; i++) {
      if (!below[made[i - 1]][made[i]]) {
        int first = made[i - 1];
        made[i - 1] = made[i];
        made[i] = first;
      }
    }
    return made;
  }

  // Questions, by the sets of rows that can be left.

  private static int questions(List<int[]> all) {
    int size = all.get(0).length;
    Set<Integer> asks = new TreeSet<>();
    for (int x = 0; x < size; x++) {
      for (int y = 0; y < x; y++) {
        int yes = 0;
        for (int i = 0; i < all.size(); i++) {
          yes |= isAhead(all.get(i), x, y) ? 1 << i : 0;
        }
        asks.add(yes);
      }
    }
    int[] list = asks.stream().mapToInt(i -> i).toArray();
    return fewest((1 << all.size()) - 1, list, new HashMap<>());
  }

  private static boolean isAhead(int[] row, int x, int y) {
    for (int z : row) {
      if (z == x || z == y) {
        return z == x;
      }
    }
    throw new AssertionError("no such elements");
  }

  private static int fewest(int set, int[] asks, Map<Integer, Integer> known) {
    if ((set & (set - 1)) == 0) {
      return 0;
    }
    Integer before = known.get(set);
    if (before != null) {
      return before;
    }
    int best = 99;
    for (int ask : asks) {
      if ((set & ask) != 0 && (set & ~ask) != 0) {
        int yes = fewest(set & ask, asks, known);
        best = Math.min(best, 1 + Math.max(yes, fewest(set & ~ask, asks, known)));
      }
    }
    known.put(set, best);
    return best;
  }

  /** Two chains with some pairs between them: orders with few rows. */
  private static boolean nearlyChain() {
    Zetaposet z = new Zetaposet();
    int size = 7 + pick(6);
    int order = z.order(size);
    int[] lasts = {-1, -1, -1};
    int ways = 2 + pick(2);
    for (int x = 0; x < size; x++) {
      int way = pick(ways);
      if (lasts[way] >= 0) {
        z.relate(order, lasts[way], x);
      }
      int other = lasts[pick(ways)];
      if (other >= 0 && pick(4) > 0) {
        z.relate(order, other, x);
      }
      lasts[way] = x;
    }
    boolean[][] below = read(z, order);
    askChains(z, order, below);
    check.isTrue("isSound", z.isSound());
    return askRows(z, order, below);
  }

  // Parts: whether an order is found in another one.

  private static void askParts(Zetaposet z, int order, boolean[][] below) {
    int size = below.length;
    int set = 1 + pick((1 << size) - 1);
    int part = z.part(order, set);
    check.isTrue("embeds a part", z.embeds(part, order));
    check.is("embeds in a part", z.embeds(order, part), set == (1 << size) - 1);
    int other = some(z, 3 + pick(4), 10 + pick(60));
    boolean[][] small = read(z, other);
    check.is("embeds", z.embeds(other, order), isPlaced(small, below, new int[small.length], 0));
    check.is("areAlike", z.areAlike(part, other), read(z, part).length == small.length
        && isPlaced(small, read(z, part), new int[small.length], 0));
  }

  private static boolean isPlaced(boolean[][] one, boolean[][] two, int[] to, int x) {
    if (x == one.length) {
      return true;
    }
    for (int y = 0; y < two.length; y++) {
      boolean fits = true;
      for (int w = 0; w < x && fits; w++) {
        fits = to[w] != y && one[w][x] == two[to[w]][y] && one[x][w] == two[y][to[w]];
      }
      to[x] = y;
      if (fits && isPlaced(one, two, to, x + 1)) {
        return true;
      }
    }
    return false;
  }

  // Congruences: all joins of those that two elements beget.

  private static int cutsOr(Zetaposet z, int order) {
    try {
      return z.cuts(order);
    } catch (IllegalArgumentException e) {
      return order;
    }
  }

  private static boolean ofConcepts() {
    Zetaposet z = new Zetaposet();
    int things = 3 + pick(4);
    int marks = 3 + pick(4);
    int share = 40 + pick(40);
    z.table(things, marks);
    for (int i = 0; i < things * marks; i++) {
      z.cross(i / marks, i % marks, pick(100) < share);
    }
    return z.concepts() <= 12 && askCongruences(z, z.conceptOrder());
  }

  private static boolean askCongruences(Zetaposet z, int order) {
    if (!z.isLattice(order)) {
      check.fails("congruences", Check.UNSUPPORTED, () -> z.congruences(order));
      return false;
    }
    int size = z.size(order);
    int[][] joins = new int[size][size];
    int[][] meets = new int[size][size];
    for (int x = 0; x < size; x++) {
      for (int y = 0; y < size; y++) {
        joins[x][y] = z.join(order, x, y);
        meets[x][y] = z.meet(order, x, y);
      }
    }
    check.is("congruences", z.congruences(order), congruences(joins, meets));
    return true;
  }

  private static int congruences(int[][] joins, int[][] meets) {
    int size = joins.length;
    int[] apart = new int[size];
    for (int x = 0; x < size; x++) {
      apart[x] = x;
    }
    Map<String, int[]> found = new HashMap<>();
    List<int[]> due = new ArrayList<>();
    found.put(Arrays.toString(apart), apart);
    due.add(apart);
    while (!due.isEmpty()) {
      int[] at = due.remove(due.size() - 1);
      for (int x = 0; x < size; x++) {
        for (int y = 0; y < x; y++) {
          int[] made = put(at, x, y, joins, meets);
          if (found.put(Arrays.toString(made), made) == null) {
            due.add(made);
          }
        }
      }
    }
    return found.size();
  }

  /** The least congruence that has one in it, and two elements in one class. */
  private static int[] put(int[] of, int one, int other, int[][] joins, int[][] meets) {
    int[] made = of.clone();
    List<int[]> due = new ArrayList<>();
    due.add(new int[] {one, other});
    while (!due.isEmpty()) {
      int[] pair = due.remove(due.size() - 1);
      int kept = Math.min(made[pair[0]], made[pair[1]]);
      int gone = Math.max(made[pair[0]], made[pair[1]]);
      if (kept != gone) {
        for (int x = 0; x < made.length; x++) {
          made[x] = made[x] == gone ? kept : made[x];
          due.add(new int[] {joins[pair[0]][x], joins[pair[1]][x]});
          due.add(new int[] {meets[pair[0]][x], meets[pair[1]][x]});
        }
      }
    }
    return made;
  }
}
