import java.util.ArrayList;
import java.util.HashMap;
import java.util.HashSet;
import java.util.List;
import java.util.Map;
import java.util.NoSuchElementException;
import java.util.Set;
import java.util.TreeSet;

/**
 * The document once more, by its words alone: everything is tried out, without a thought of how
 * long it takes. Where that would be too long, Skip is thrown.
 */
final class Oracle {
  static final class Skip extends RuntimeException {
    private static final long serialVersionUID = 1;
  }

  private final List<boolean[][]> orders = new ArrayList<>();
  private final List<Integer> map = new ArrayList<>();
  private List<Set<Integer>> table = new ArrayList<>();
  private int marks = 1;
  private boolean isExploring = false;
  private final List<int[]> rules = new ArrayList<>();
  private final int[][] prefer = new int[6][6];

  // What a run of calls asks, to choose its arguments.

  int count() {
    return orders.size();
  }

  int sizeOr(int order, int otherwise) {
    return order < 0 || order >= orders.size() ? otherwise : orders.get(order).length;
  }

  /** Now and then all orders are taken away, mostly once there are many. */
  boolean clearIsDue(int chance) {
    return chance < (orders.size() == 10 ? 20 : 1);
  }

  /** An ideal of an order within a set, or the set itself. */
  int someSet(int order, int set, boolean isItself) {
    if (isItself || order < 0 || order >= orders.size()) {
      return set;
    }
    int found = set & ((1 << orders.get(order).length) - 1);
    while (!ideal(orders.get(order), found)) {
      found &= found - 1;
    }
    return found;
  }

  /** A thing that refuses the question, if there is one, and holds some of the rules. */
  int refusal(int one, int other) {
    try {
      int premise = question(true);
      int out = question(false) & ~premise & (one == 0 ? 1 : one);
      return (premise | other & ((1 << marks) - 1)) & ~Integer.lowestOneBit(out);
    } catch (NoSuchElementException e) {
      return one;
    }
  }

  // Help

  private boolean[][] get(int order) {
    if (order < 0 || order >= orders.size()) {
      throw new IndexOutOfBoundsException();
    }
    return orders.get(order);
  }

  private static void element(boolean[][] below, int x) {
    if (x < 0 || x >= below.length) {
      throw new IndexOutOfBoundsException();
    }
  }

  private static void argument(boolean isRight) {
    if (!isRight) {
      throw new IllegalArgumentException();
    }
  }

  private static void unsupported(boolean isRight) {
    if (!isRight) {
      throw new UnsupportedOperationException();
    }
  }

  private static void feasible(boolean isShort) {
    if (!isShort) {
      throw new Skip();
    }
  }

  private int add(boolean[][] below) {
    if (orders.size() == 10) {
      throw new IllegalStateException();
    }
    orders.add(below);
    return orders.size() - 1;
  }

  private static boolean in(int set, int x) {
    return (set & (1 << x)) != 0;
  }

  private static boolean atMost(boolean[][] below, int x, int y) {
    return x == y || below[x][y];
  }

  private static boolean related(boolean[][] below, int x, int y) {
    return below[x][y] || below[y][x];
  }

  private static boolean coversOf(boolean[][] below, int high, int low) {
    if (!below[low][high]) {
      return false;
    }
    for (int z = 0; z < below.length; z++) {
      if (below[low][z] && below[z][high]) {
        return false;
      }
    }
    return true;
  }

  private static int rankOf(boolean[][] below, int x) {
    int found = 0;
    for (int y = 0; y < below.length; y++) {
      if (below[y][x]) {
        found = Math.max(found, rankOf(below, y) + 1);
      }
    }
    return found;
  }

  private static boolean ranked(boolean[][] below) {
    for (int x = 0; x < below.length; x++) {
      for (int y = 0; y < below.length; y++) {
        if (coversOf(below, y, x) && rankOf(below, y) != rankOf(below, x) + 1) {
          return false;
        }
      }
    }
    return true;
  }

  private static int top(boolean[][] below) {
    int found = 0;
    for (int x = 0; x < below.length; x++) {
      found = Math.max(found, rankOf(below, x));
    }
    return found;
  }

  private static int pairs(boolean[][] below) {
    int found = 0;
    for (boolean[] row : below) {
      for (boolean is : row) {
        found += is ? 1 : 0;
      }
    }
    return found;
  }

  private static boolean ideal(boolean[][] below, int set) {
    if (set < 0 || set >= 1 << below.length) {
      return false;
    }
    for (int x = 0; x < below.length; x++) {
      for (int y = 0; y < below.length; y++) {
        if (in(set, x) && below[y][x] && !in(set, y)) {
          return false;
        }
      }
    }
    return true;
  }

  private static boolean chain(boolean[][] below, int set) {
    for (int x = 0; x < below.length; x++) {
      for (int y = 0; y < x; y++) {
        if (in(set, x) && in(set, y) && !related(below, x, y)) {
          return false;
        }
      }
    }
    return true;
  }

  private static boolean anti(boolean[][] below, int set) {
    for (int x = 0; x < below.length; x++) {
      for (int y = 0; y < x; y++) {
        if (in(set, x) && in(set, y) && related(below, x, y)) {
          return false;
        }
      }
    }
    return true;
  }

  private static boolean[][] bySets(List<Integer> sets) {
    int n = sets.size();
    boolean[][] below = new boolean[n][n];
    for (int x = 0; x < n; x++) {
      for (int y = 0; y < n; y++) {
        below[x][y] = x != y && (sets.get(x) | sets.get(y)) == sets.get(y);
      }
    }
    return below;
  }

  // Promises 2 to 10

  int order(int elements) {
    argument(elements >= 1 && elements <= 12);
    return add(new boolean[elements][elements]);
  }

  int relate(int order, int low, int high) {
    boolean[][] below = get(order);
    element(below, low);
    element(below, high);
    argument(low != high && !below[high][low]);
    below[low][high] = true;
    for (int k = 0; k < below.length; k++) {
      for (int i = 0; i < below.length; i++) {
        for (int j = 0; j < below.length; j++) {
          below[i][j] |= below[i][k] && below[k][j];
        }
      }
    }
    return pairs(below);
  }

  int divisors(int number) {
    argument(number >= 1 && number <= 99999);
    List<Integer> found = new ArrayList<>();
    for (int d = 1; d <= number; d++) {
      if (number % d == 0) {
        found.add(d);
      }
    }
    argument(found.size() <= 12);
    int n = found.size();
    boolean[][] below = new boolean[n][n];
    for (int x = 0; x < n; x++) {
      for (int y = 0; y < n; y++) {
        below[x][y] = x != y && found.get(y) % found.get(x) == 0;
      }
    }
    return add(below);
  }

  int subsets(int things) {
    argument(things >= 0 && things <= 3);
    List<Integer> sets = new ArrayList<>();
    for (int i = 0; i < Math.pow(2, things); i++) {
      sets.add(i);
    }
    return add(bySets(sets));
  }

  int dual(int order) {
    boolean[][] one = get(order);
    boolean[][] below = new boolean[one.length][one.length];
    for (int x = 0; x < one.length; x++) {
      for (int y = 0; y < one.length; y++) {
        below[x][y] = one[y][x];
      }
    }
    return add(below);
  }

  int sum(int order, int other, boolean isAbove) {
    boolean[][] one = get(order);
    boolean[][] two = get(other);
    int n = one.length + two.length;
    argument(n <= 12);
    boolean[][] below = new boolean[n][n];
    for (int x = 0; x < one.length; x++) {
      for (int y = 0; y < one.length; y++) {
        below[x][y] = one[x][y];
      }
      for (int y = 0; y < two.length; y++) {
        below[x][one.length + y] = isAbove;
      }
    }
    for (int x = 0; x < two.length; x++) {
      for (int y = 0; y < two.length; y++) {
        below[one.length + x][one.length + y] = two[x][y];
      }
    }
    return add(below);
  }

  int product(int order, int other) {
    boolean[][] one = get(order);
    boolean[][] two = get(other);
    argument(one.length * two.length <= 12);
    List<int[]> all = new ArrayList<>();
    for (int a = 0; a < one.length; a++) {
      for (int b = 0; b < two.length; b++) {
        all.add(new int[] {a, b});
      }
    }
    int n = all.size();
    boolean[][] below = new boolean[n][n];
    for (int x = 0; x < n; x++) {
      for (int y = 0; y < n; y++) {
        below[x][y] = x != y && atMost(one, all.get(x)[0], all.get(y)[0])
            && atMost(two, all.get(x)[1], all.get(y)[1]);
      }
    }
    return add(below);
  }

  int intervals(int order) {
    boolean[][] one = get(order);
    List<int[]> all = new ArrayList<>();
    for (int a = 0; a < one.length; a++) {
      for (int b = 0; b < one.length; b++) {
        if (atMost(one, a, b)) {
          all.add(new int[] {a, b});
        }
      }
    }
    int n = all.size();
    argument(n <= 12);
    boolean[][] below = new boolean[n][n];
    for (int x = 0; x < n; x++) {
      for (int y = 0; y < n; y++) {
        below[x][y] = x != y && atMost(one, all.get(y)[0], all.get(x)[0])
            && atMost(one, all.get(x)[1], all.get(y)[1]);
      }
    }
    return add(below);
  }

  int clear() {
    int had = orders.size();
    orders.clear();
    return had;
  }

  // Promises 11 to 16

  int size(int order) {
    return get(order).length;
  }

  int above(int order, int element) {
    boolean[][] below = get(order);
    element(below, element);
    int found = 0;
    for (int y = 0; y < below.length; y++) {
      found += below[element][y] ? 1 << y : 0;
    }
    return found;
  }

  int covers(int order, int element) {
    boolean[][] below = get(order);
    element(below, element);
    int found = 0;
    for (int y = 0; y < below.length; y++) {
      found += coversOf(below, element, y) ? 1 << y : 0;
    }
    return found;
  }

  int rank(int order, int element) {
    boolean[][] below = get(order);
    element(below, element);
    return rankOf(below, element);
  }

  boolean isRanked(int order) {
    return ranked(get(order));
  }

  boolean areAlike(int order, int other) {
    boolean[][] one = get(order);
    boolean[][] two = get(other);
    return one.length == two.length && placed(one, two, new int[one.length], 0, new int[1]);
  }

  boolean embeds(int order, int other) {
    boolean[][] one = get(order);
    boolean[][] two = get(other);
    return placed(one, two, new int[one.length], 0, new int[1]);
  }

  private static boolean placed(boolean[][] one, boolean[][] two, int[] to, int x, int[] tries) {
    if (x == one.length) {
      return true;
    }
    feasible(tries[0]++ < 300000);
    for (int y = 0; y < two.length; y++) {
      boolean fits = true;
      for (int z = 0; z < x && fits; z++) {
        fits = to[z] != y && one[z][x] == two[to[z]][y] && one[x][z] == two[y][to[z]];
      }
      to[x] = y;
      if (fits && placed(one, two, to, x + 1, tries)) {
        return true;
      }
    }
    return false;
  }

  // Promises 17 to 21

  int width(int order) {
    return Integer.bitCount(antichain(order));
  }

  int antichain(int order) {
    boolean[][] below = get(order);
    int best = 0;
    for (int set = (1 << below.length) - 1; set > 0; set--) {
      if (Integer.bitCount(set) >= Integer.bitCount(best) && anti(below, set)) {
        best = set;
      }
    }
    return best;
  }

  int inChains(int order, int chains) {
    boolean[][] below = get(order);
    argument(chains >= 0 && chains <= 12);
    feasible(below.length <= 8);
    List<Integer> all = new ArrayList<>();
    for (int set = 1; set < 1 << below.length; set++) {
      if (chain(below, set)) {
        all.add(set);
      }
    }
    Set<Integer> reached = new HashSet<>();
    reached.add(0);
    for (int i = 0; i < chains; i++) {
      Set<Integer> next = new HashSet<>(reached);
      for (int set : reached) {
        for (int more : all) {
          next.add(set | more);
        }
      }
      reached = next;
    }
    int most = 0;
    for (int set : reached) {
      most = Math.max(most, Integer.bitCount(set));
    }
    return most;
  }

  int chains(int order) {
    boolean[][] below = get(order);
    int found = 0;
    for (int set = 1; set < 1 << below.length; set++) {
      found += chain(below, set) ? 1 : 0;
    }
    return found;
  }

  boolean isSymmetric(int order) {
    boolean[][] below = get(order);
    if (!ranked(below)) {
      return false;
    }
    int top = top(below);
    List<Integer> all = new ArrayList<>();
    for (int set = 1; set < 1 << below.length; set++) {
      int least = 99;
      int greatest = -1;
      for (int x = 0; x < below.length; x++) {
        if (in(set, x)) {
          least = Math.min(least, rankOf(below, x));
          greatest = Math.max(greatest, rankOf(below, x));
        }
      }
      boolean isWhole = Integer.bitCount(set) == greatest - least + 1;
      if (chain(below, set) && isWhole && least + greatest == top) {
        all.add(set);
      }
    }
    boolean[] parted = new boolean[1 << below.length];
    parted[0] = true;
    for (int set = 0; set < parted.length; set++) {
      for (int more : all) {
        if (parted[set] && (set & more) == 0) {
          parted[set | more] = true;
        }
      }
    }
    return parted[parted.length - 1];
  }

  // Promises 22 to 25

  long moebius(int order, int low, int high) {
    boolean[][] below = get(order);
    element(below, low);
    element(below, high);
    return mu(below, low, high);
  }

  private static long mu(boolean[][] below, int low, int high) {
    if (low == high) {
      return 1;
    }
    long found = 0;
    for (int x = 0; x < below.length; x++) {
      if (atMost(below, low, x) && below[x][high]) {
        found -= mu(below, low, x);
      }
    }
    return below[low][high] ? found : 0;
  }

  long rowsBetween(int order, int low, int high, int steps) {
    boolean[][] below = get(order);
    element(below, low);
    element(below, high);
    argument(steps >= 0 && steps <= 9);
    long[] ways = new long[below.length];
    ways[low] = 1;
    for (int i = 0; i < steps; i++) {
      long[] next = new long[below.length];
      for (int x = 0; x < below.length; x++) {
        for (int y = 0; y < below.length; y++) {
          next[y] += atMost(below, x, y) ? ways[x] : 0;
        }
      }
      ways = next;
    }
    return ways[high];
  }

  long euler(int order) {
    boolean[][] below = get(order);
    long found = -1;
    for (int set = 1; set < 1 << below.length; set++) {
      if (chain(below, set)) {
        found += Integer.bitCount(set) % 2 == 1 ? 1 : -1;
      }
    }
    return found;
  }

  long characteristic(int order, int x) {
    boolean[][] below = get(order);
    argument(x >= -9 && x <= 9);
    int least = -1;
    for (int a = 0; a < below.length; a++) {
      boolean isLeast = true;
      for (int b = 0; b < below.length; b++) {
        isLeast &= atMost(below, a, b);
      }
      least = isLeast ? a : least;
    }
    unsupported(ranked(below) && least >= 0);
    long found = 0;
    for (int a = 0; a < below.length; a++) {
      found += mu(below, least, a) * Math.round(Math.pow(x, top(below) - rankOf(below, a)));
    }
    return found;
  }

  // Promises 26 to 33

  /** All rows in their order; null if there are more than so many. */
  private static List<int[]> allRows(boolean[][] below, int most) {
    List<int[]> found = new ArrayList<>();
    boolean isAll = goOn(below, new int[below.length], 0, 0, found, most);
    return isAll ? found : null;
  }

  private static boolean goOn(
      boolean[][] below, int[] row, int place, int set, List<int[]> found, int most) {
    if (place == row.length) {
      found.add(row.clone());
      return found.size() <= most;
    }
    for (int x = 0; x < row.length; x++) {
      if (!in(set, x) && ideal(below, set | 1 << x)) {
        row[place] = x;
        if (!goOn(below, row, place + 1, set | 1 << x, found, most)) {
          return false;
        }
      }
    }
    return true;
  }

  private static List<int[]> someRows(boolean[][] below) {
    List<int[]> found = allRows(below, 3000);
    feasible(found != null);
    return found;
  }

  long rows(int order) {
    return someRows(get(order)).size();
  }

  int rowAt(int order, long row, int place) {
    boolean[][] below = get(order);
    element(below, place);
    List<int[]> all = someRows(below);
    argument(row >= 0 && row < all.size());
    return all.get((int) row)[place];
  }

  private static int[] promoted(boolean[][] below, int[] row, int length) {
    int[] place = new int[row.length];
    for (int i = 0; i < length; i++) {
      place[row[i]] = i + 1;
    }
    List<Integer> chain = new ArrayList<>();
    chain.add(row[0]);
    boolean isGoing = true;
    while (isGoing) {
      isGoing = false;
      int last = chain.get(chain.size() - 1);
      for (int i = 0; i < length && !isGoing; i++) {
        if (coversOf(below, row[i], last)) {
          chain.add(row[i]);
          isGoing = true;
        }
      }
    }
    int[] next = place.clone();
    for (int i = 0; i + 1 < chain.size(); i++) {
      next[chain.get(i)] = place[chain.get(i + 1)];
    }
    next[chain.get(chain.size() - 1)] = length + 1;
    int[] made = row.clone();
    for (int i = 0; i < length; i++) {
      made[next[row[i]] - 1 - 1] = row[i];
    }
    return made;
  }

  private static int indexOf(List<int[]> all, int[] row) {
    for (int i = 0; i < all.size(); i++) {
      if (java.util.Arrays.equals(all.get(i), row)) {
        return i;
      }
    }
    throw new AssertionError("no row");
  }

  long promote(int order, long row) {
    boolean[][] below = get(order);
    List<int[]> all = someRows(below);
    argument(row >= 0 && row < all.size());
    return indexOf(all, promoted(below, all.get((int) row), below.length));
  }

  long evacuate(int order, long row) {
    boolean[][] below = get(order);
    List<int[]> all = someRows(below);
    argument(row >= 0 && row < all.size());
    int[] at = all.get((int) row);
    for (int length = below.length; length >= 1; length--) {
      at = promoted(below, at, length);
    }
    return indexOf(all, at);
  }

  int jumps(int order) {
    boolean[][] below = get(order);
    int best = 99;
    for (int[] row : someRows(below)) {
      int found = 0;
      for (int i = 1; i < row.length; i++) {
        found += related(below, row[i - 1], row[i]) ? 0 : 1;
      }
      best = Math.min(best, found);
    }
    return best;
  }

  private static int placeOf(int[] row, int x) {
    for (int i = 0; i < row.length; i++) {
      if (row[i] == x) {
        return i;
      }
    }
    throw new AssertionError("no place");
  }

  long balance(int order) {
    boolean[][] below = get(order);
    int n = below.length;
    if (pairs(below) == n * (n - 1) / 2) {
      throw new NoSuchElementException();
    }
    List<int[]> all = someRows(below);
    long best = 0;
    for (int x = 0; x < n; x++) {
      for (int y = 0; y < x; y++) {
        if (!related(below, x, y)) {
          long ahead = 0;
          for (int[] row : all) {
            ahead += placeOf(row, x) < placeOf(row, y) ? 1 : 0;
          }
          best = Math.max(best, Math.min(ahead, all.size() - ahead));
        }
      }
    }
    return best;
  }

  int questions(int order) {
    boolean[][] below = get(order);
    List<int[]> all = allRows(below, 30);
    unsupported(all != null);
    List<Integer> asks = new ArrayList<>();
    for (int x = 0; x < below.length; x++) {
      for (int y = 0; y < x; y++) {
        int yes = 0;
        for (int i = 0; i < all.size(); i++) {
          yes |= placeOf(all.get(i), x) < placeOf(all.get(i), y) ? 1 << i : 0;
        }
        asks.add(yes);
      }
    }
    return fewest((1 << all.size()) - 1, asks, new HashMap<>());
  }

  private static int fewest(int set, List<Integer> asks, Map<Integer, Integer> known) {
    if (Integer.bitCount(set) <= 1) {
      return 0;
    }
    Integer before = known.get(set);
    if (before != null) {
      return before;
    }
    feasible(known.size() < 20000);
    int best = 99;
    for (int ask : asks) {
      if ((set & ask) != 0 && (set & ~ask) != 0) {
        int yes = fewest(set & ask, asks, known);
        int no = fewest(set & ~ask, asks, known);
        best = Math.min(best, 1 + Math.max(yes, no));
      }
    }
    known.put(set, best);
    return best;
  }

  int dimension(int order) {
    boolean[][] below = get(order);
    int n = below.length;
    unsupported(n <= 6);
    // By row, the pairs x y with x ahead, though not below: each such pair has to fail in a row.
    Set<Long> rows = new HashSet<>();
    long all = 0;
    for (int x = 0; x < n; x++) {
      for (int y = 0; y < n; y++) {
        all |= x != y && !related(below, x, y) ? 1L << (x * n + y) : 0;
      }
    }
    for (int[] row : someRows(below)) {
      long ahead = 0;
      for (int i = 0; i < n; i++) {
        for (int j = i + 1; j < n; j++) {
          ahead |= 1L << (row[i] * n + row[j]);
        }
      }
      rows.add(all & ~ahead);
    }
    Set<Long> reached = new HashSet<>();
    reached.add(0L);
    for (int many = 1; ; many++) {
      Set<Long> next = new HashSet<>();
      for (long set : reached) {
        for (long more : rows) {
          next.add(set | more);
        }
      }
      if (next.contains(all)) {
        return many;
      }
      reached = next;
    }
  }

  boolean isOfIntervals(int order, boolean areLike) {
    boolean[][] below = get(order);
    int n = below.length;
    for (int a = 0; a < n; a++) {
      for (int b = 0; b < n; b++) {
        for (int c = 0; c < n; c++) {
          for (int d = 0; d < n; d++) {
            boolean apart = a != c && a != d && b != c && b != d && !related(below, a, d)
                && !related(below, b, d);
            if (below[a][b] && below[c][d] && apart && !related(below, a, c)
                && !related(below, b, c)) {
              return false;
            }
            boolean isThree = below[a][b] && below[b][c] && d != a && d != b && d != c;
            if (areLike && isThree && !related(below, a, d) && !related(below, b, d)
                && !related(below, c, d)) {
              return false;
            }
          }
        }
      }
    }
    return true;
  }

  // Promises 35 to 41

  private static int joinOf(boolean[][] below, int a, int b) {
    for (int x = 0; x < below.length; x++) {
      boolean isLeast = atMost(below, a, x) && atMost(below, b, x);
      for (int y = 0; y < below.length; y++) {
        isLeast &= !(atMost(below, a, y) && atMost(below, b, y)) || atMost(below, x, y);
      }
      if (isLeast) {
        return x;
      }
    }
    return -1;
  }

  private static int meetOf(boolean[][] below, int a, int b) {
    for (int x = 0; x < below.length; x++) {
      boolean isGreatest = atMost(below, x, a) && atMost(below, x, b);
      for (int y = 0; y < below.length; y++) {
        isGreatest &= !(atMost(below, y, a) && atMost(below, y, b)) || atMost(below, y, x);
      }
      if (isGreatest) {
        return x;
      }
    }
    return -1;
  }

  private static boolean lattice(boolean[][] below) {
    for (int a = 0; a < below.length; a++) {
      for (int b = 0; b < below.length; b++) {
        if (joinOf(below, a, b) < 0 || meetOf(below, a, b) < 0) {
          return false;
        }
      }
    }
    return true;
  }

  boolean isLattice(int order) {
    return lattice(get(order));
  }

  int join(int order, int one, int other) {
    boolean[][] below = get(order);
    element(below, one);
    element(below, other);
    return some(joinOf(below, one, other));
  }

  int meet(int order, int one, int other) {
    boolean[][] below = get(order);
    element(below, one);
    element(below, other);
    return some(meetOf(below, one, other));
  }

  private static int some(int found) {
    if (found < 0) {
      throw new NoSuchElementException();
    }
    return found;
  }

  boolean isOfKind(int order, char kind) {
    boolean[][] below = get(order);
    argument(kind == 'd' || kind == 'm' || kind == 'g');
    unsupported(lattice(below));
    return kind == 'g' ? geometric(below) : distributive(below, kind == 'm');
  }

  private static boolean distributive(boolean[][] below, boolean isModular) {
    int n = below.length;
    for (int a = 0; a < n; a++) {
      for (int b = 0; b < n; b++) {
        for (int c = 0; c < n; c++) {
          int left = meetOf(below, a, joinOf(below, b, c));
          int right = joinOf(below, meetOf(below, a, b), meetOf(below, a, c));
          if ((!isModular || atMost(below, c, a)) && left != right) {
            return false;
          }
        }
      }
    }
    return true;
  }

  private static boolean geometric(boolean[][] below) {
    int n = below.length;
    int least = 0;
    for (int a = 0; a < n; a++) {
      least = meetOf(below, least, a);
      for (int b = 0; b < n; b++) {
        int ends = rankOf(below, meetOf(below, a, b)) + rankOf(below, joinOf(below, a, b));
        if (ends > rankOf(below, a) + rankOf(below, b)) {
          return false;
        }
      }
    }
    // All joins of some that cover the least one.
    Set<Integer> joins = new HashSet<>();
    joins.add(least);
    for (int round = 0; round < n; round++) {
      for (int a : new ArrayList<>(joins)) {
        for (int b = 0; b < n; b++) {
          if (coversOf(below, b, least)) {
            joins.add(joinOf(below, a, b));
          }
        }
      }
    }
    return ranked(below) && joins.size() == n;
  }

  int joined(int order) {
    boolean[][] below = get(order);
    unsupported(lattice(below));
    int found = 0;
    for (int x = 0; x < below.length; x++) {
      found |= Integer.bitCount(covers(order, x)) == 1 ? 1 << x : 0;
    }
    return found;
  }

  int congruences(int order) {
    boolean[][] below = get(order);
    unsupported(lattice(below));
    feasible(below.length <= 9);
    return partings(below, new int[below.length], 0, 0);
  }

  private static int partings(boolean[][] below, int[] of, int x, int classes) {
    if (x == below.length) {
      return congruence(below, of) ? 1 : 0;
    }
    int found = 0;
    for (int c = 0; c <= classes; c++) {
      of[x] = c;
      found += partings(below, of, x + 1, Math.max(classes, c + 1));
    }
    return found;
  }

  private static boolean congruence(boolean[][] below, int[] of) {
    int n = below.length;
    for (int a = 0; a < n; a++) {
      for (int b = 0; b < a; b++) {
        for (int c = 0; c < n && of[a] == of[b]; c++) {
          if (of[joinOf(below, a, c)] != of[joinOf(below, b, c)]
              || of[meetOf(below, a, c)] != of[meetOf(below, b, c)]) {
            return false;
          }
        }
      }
    }
    return true;
  }

  int doubled(int order, int low, int high) {
    boolean[][] one = get(order);
    element(one, low);
    element(one, high);
    argument(atMost(one, low, high));
    List<int[]> all = new ArrayList<>();
    boolean[] isIn = new boolean[one.length];
    for (int x = 0; x < one.length; x++) {
      isIn[x] = atMost(one, low, x) && atMost(one, x, high);
      all.add(new int[] {x, 1});
      if (isIn[x]) {
        all.add(new int[] {x, 2});
      }
    }
    int n = all.size();
    argument(n <= 12);
    boolean[][] below = new boolean[n][n];
    for (int i = 0; i < n; i++) {
      for (int j = 0; j < n; j++) {
        int x = all.get(i)[0];
        int y = all.get(j)[0];
        boolean isSecond = all.get(i)[1] == 2;
        boolean isOtherSecond = all.get(j)[1] == 2;
        if (!isSecond || isOtherSecond) {
          below[i][j] = i != j && atMost(one, x, y);
        } else {
          below[i][j] = atMost(one, x, y) && !isIn[y];
        }
      }
    }
    return add(below);
  }

  // Promises 42 to 48

  private static List<Integer> allIdeals(boolean[][] below) {
    List<Integer> found = new ArrayList<>();
    for (int set = 0; set < 1 << below.length; set++) {
      if (ideal(below, set)) {
        found.add(set);
      }
    }
    return found;
  }

  int ideals(int order) {
    List<Integer> all = allIdeals(get(order));
    argument(all.size() <= 12);
    return add(bySets(all));
  }

  int cuts(int order) {
    boolean[][] below = get(order);
    Set<Integer> all = new TreeSet<>();
    for (int set = 0; set < 1 << below.length; set++) {
      int found = 0;
      for (int x = 0; x < below.length; x++) {
        boolean isIn = true;
        for (int y = 0; y < below.length; y++) {
          boolean isAtLeastAll = true;
          for (int z = 0; z < below.length; z++) {
            isAtLeastAll &= !in(set, z) || atMost(below, z, y);
          }
          isIn &= !isAtLeastAll || atMost(below, x, y);
        }
        found |= isIn ? 1 << x : 0;
      }
      all.add(found);
    }
    argument(all.size() <= 12);
    return add(bySets(new ArrayList<>(all)));
  }

  int part(int order, int elements) {
    boolean[][] one = get(order);
    argument(elements > 0 && elements < 1 << one.length);
    List<Integer> all = new ArrayList<>();
    for (int x = 0; x < one.length; x++) {
      if (in(elements, x)) {
        all.add(x);
      }
    }
    boolean[][] below = new boolean[all.size()][all.size()];
    for (int x = 0; x < all.size(); x++) {
      for (int y = 0; y < all.size(); y++) {
        below[x][y] = one[all.get(x)][all.get(y)];
      }
    }
    return add(below);
  }

  int idealCount(int order) {
    return allIdeals(get(order)).size();
  }

  int toggle(int order, int ideal, int element) {
    boolean[][] below = get(order);
    element(below, element);
    argument(ideal(below, ideal));
    int other = in(ideal, element) ? ideal - (1 << element) : ideal + (1 << element);
    return ideal(below, other) ? other : ideal;
  }

  int turn(int order, int ideal) {
    boolean[][] below = get(order);
    argument(ideal(below, ideal));
    return turned(below, ideal);
  }

  private static int turned(boolean[][] below, int ideal) {
    int found = 0;
    for (int x = 0; x < below.length; x++) {
      boolean isLeast = !in(ideal, x);
      for (int y = 0; y < below.length; y++) {
        isLeast &= !(below[y][x] && !in(ideal, y));
      }
      for (int y = 0; y < below.length; y++) {
        found |= isLeast && atMost(below, y, x) ? 1 << y : 0;
      }
    }
    return found;
  }

  int orbit(int order, int ideal, boolean isSum) {
    boolean[][] below = get(order);
    argument(ideal(below, ideal));
    Set<Integer> seen = new HashSet<>();
    int sum = 0;
    for (int at = ideal; seen.add(at); at = turned(below, at)) {
      sum += Integer.bitCount(at);
    }
    return isSum ? sum : seen.size();
  }

  // Promises 49 to 57

  int type(int value) {
    argument(value >= 0 && value <= 11);
    if (map.size() == 12) {
      throw new IllegalStateException();
    }
    map.add(value);
    return map.size();
  }

  int wipe() {
    int had = map.size();
    map.clear();
    return had;
  }

  private void needMap(boolean[][] one, boolean[][] two) {
    argument(map.size() == one.length);
    for (int value : map) {
      argument(value < two.length);
    }
  }

  private boolean kept(boolean[][] one, boolean[][] two) {
    for (int x = 0; x < one.length; x++) {
      for (int y = 0; y < one.length; y++) {
        if (atMost(one, x, y) && !atMost(two, map.get(x), map.get(y))) {
          return false;
        }
      }
    }
    return true;
  }

  boolean keeps(int order, int other) {
    boolean[][] one = get(order);
    boolean[][] two = get(other);
    needMap(one, two);
    return kept(one, two);
  }

  int adjoint(int order, int other, int element) {
    boolean[][] one = get(order);
    boolean[][] two = get(other);
    element(two, element);
    needMap(one, two);
    argument(kept(one, two));
    int[] found = new int[two.length];
    for (int y = 0; y < two.length; y++) {
      found[y] = -1;
      for (int x = 0; x < one.length; x++) {
        boolean isGreatest = atMost(two, map.get(x), y);
        for (int z = 0; z < one.length; z++) {
          isGreatest &= !atMost(two, map.get(z), y) || atMost(one, z, x);
        }
        found[y] = isGreatest ? x : found[y];
      }
    }
    for (int value : found) {
      some(value);
    }
    return found[element];
  }

  int fixed(int order, int element) {
    boolean[][] one = get(order);
    element(one, element);
    needMap(one, one);
    List<Integer> way = new ArrayList<>();
    int at = element;
    while (!way.contains(at)) {
      way.add(at);
      at = map.get(at);
    }
    int least = 99;
    for (int x : way.subList(way.indexOf(at), way.size())) {
      least = Math.min(least, x);
    }
    return least;
  }

  int core(int order) {
    boolean[][] below = get(order);
    int left = (1 << below.length) - 1;
    boolean isGoing = true;
    while (isGoing) {
      isGoing = false;
      for (int x = 0; x < below.length && !isGoing; x++) {
        if (in(left, x) && (beside(below, left, x, true) == 1
            || beside(below, left, x, false) == 1)) {
          left -= 1 << x;
          isGoing = true;
        }
      }
    }
    return left;
  }

  private static int beside(boolean[][] below, int left, int x, boolean isUp) {
    int found = 0;
    for (int y = 0; y < below.length; y++) {
      boolean isCover = in(left, y) && (isUp ? below[x][y] : below[y][x]);
      for (int z = 0; z < below.length; z++) {
        boolean isBetween = isUp ? below[x][z] && below[z][y] : below[y][z] && below[z][x];
        isCover &= !(in(left, z) && isBetween);
      }
      found += isCover ? 1 : 0;
    }
    return found;
  }

  boolean alwaysFixed(int order) {
    boolean[][] below = get(order);
    int n = below.length;
    unsupported(n <= 6);
    int all = (int) Math.round(Math.pow(n, n));
    for (int code = 0; code < all; code++) {
      int[] to = new int[n];
      boolean isMoving = true;
      for (int x = 0, rest = code; x < n; x++, rest /= n) {
        to[x] = rest % n;
        isMoving &= to[x] != x;
      }
      for (int x = 0; x < n && isMoving; x++) {
        for (int y = 0; y < n && isMoving; y++) {
          isMoving = !below[x][y] || atMost(below, to[x], to[y]);
        }
      }
      if (isMoving) {
        return false;
      }
    }
    return true;
  }

  int schedule(int order, int machines) {
    boolean[][] below = get(order);
    argument(machines >= 1 && machines <= 12);
    int all = (1 << below.length) - 1;
    Set<Integer> done = new HashSet<>();
    done.add(0);
    for (int steps = 0; ; steps++) {
      if (done.contains(all)) {
        return steps;
      }
      Set<Integer> next = new HashSet<>();
      for (int set : done) {
        int ready = 0;
        for (int x = 0; x < below.length; x++) {
          ready |= !in(set, x) && ideal(below, set | 1 << x) ? 1 << x : 0;
        }
        for (int some = ready; some > 0; some = (some - 1) & ready) {
          if (Integer.bitCount(some) <= machines) {
            next.add(set | some);
          }
        }
      }
      done = next;
    }
  }

  // Promises 58 to 68

  int table(int things, int marks) {
    argument(things >= 0 && things <= 6 && marks >= 1 && marks <= 6);
    int had = table.size();
    begin(things, marks, false);
    return had;
  }

  private void begin(int things, int marks, boolean isExploring) {
    table = new ArrayList<>();
    for (int i = 0; i < things; i++) {
      table.add(new TreeSet<>());
    }
    this.marks = marks;
    this.isExploring = isExploring;
    rules.clear();
  }

  boolean cross(int thing, int mark, boolean is) {
    if (thing < 0 || thing >= table.size() || mark < 0 || mark >= marks) {
      throw new IndexOutOfBoundsException();
    }
    if (isExploring) {
      throw new IllegalStateException();
    }
    boolean was = table.get(thing).contains(mark);
    if (is) {
      table.get(thing).add(mark);
    } else {
      table.get(thing).remove(mark);
    }
    return was;
  }

  private int things(int set) {
    int found = 0;
    for (int thing = 0; thing < table.size(); thing++) {
      boolean hasAll = true;
      for (int mark = 0; mark < marks; mark++) {
        hasAll &= !in(set, mark) || table.get(thing).contains(mark);
      }
      found |= hasAll ? 1 << thing : 0;
    }
    return found;
  }

  private int closed(int set) {
    int found = 0;
    for (int mark = 0; mark < marks; mark++) {
      boolean isCommon = true;
      for (int thing = 0; thing < table.size(); thing++) {
        isCommon &= !in(things(set), thing) || table.get(thing).contains(mark);
      }
      found |= isCommon ? 1 << mark : 0;
    }
    return found;
  }

  private List<Integer> allConcepts() {
    Set<Integer> found = new TreeSet<>();
    for (int set = 0; set < 1 << marks; set++) {
      found.add(closed(set));
    }
    return new ArrayList<>(found);
  }

  int concepts() {
    return allConcepts().size();
  }

  int conceptAt(int index, boolean areThings) {
    if (index < 0 || index >= concepts()) {
      throw new IndexOutOfBoundsException();
    }
    int found = allConcepts().get(index);
    return areThings ? things(found) : found;
  }

  int conceptOrder() {
    List<Integer> sets = new ArrayList<>();
    for (int found : allConcepts()) {
      sets.add(things(found));
    }
    argument(sets.size() <= 12);
    return add(bySets(sets));
  }

  /** Whether a set is pseudo-closed, by its smaller sets alone. */
  private boolean pseudo(int set, Map<Integer, Boolean> known) {
    Boolean before = known.get(set);
    if (before != null) {
      return before;
    }
    boolean is = closed(set) != set;
    for (int small = 0; small < set && is; small++) {
      if ((small | set) == set && pseudo(small, known)) {
        is = (closed(small) | set) == set;
      }
    }
    known.put(set, is);
    return is;
  }

  private List<Integer> premises() {
    Map<Integer, Boolean> known = new HashMap<>();
    List<Integer> found = new ArrayList<>();
    for (int set = 0; set < 1 << marks; set++) {
      if (pseudo(set, known)) {
        found.add(set);
      }
    }
    found.sort((a, b) -> Integer.bitCount(a) != Integer.bitCount(b)
        ? Integer.bitCount(a) - Integer.bitCount(b) : a - b);
    return found;
  }

  int implications() {
    return premises().size();
  }

  int implicationAt(int index, boolean isPremise) {
    if (index < 0 || index >= premises().size()) {
      throw new IndexOutOfBoundsException();
    }
    int premise = premises().get(index);
    return isPremise ? premise : closed(premise);
  }

  int explore(int marks) {
    argument(marks >= 1 && marks <= 6);
    begin(0, marks, true);
    return question(true);
  }

  int question(boolean isPremise) {
    if (isExploring) {
      for (int premise : premises()) {
        boolean isNew = true;
        for (int[] rule : rules) {
          isNew &= rule[0] != premise;
        }
        if (isNew) {
          return isPremise ? premise : closed(premise);
        }
      }
    }
    throw new NoSuchElementException();
  }

  int accept() {
    rules.add(new int[] {question(true), question(false)});
    return rules.size();
  }

  int refuse(int has) {
    int premise = question(true);
    int conclusion = question(false);
    argument(has >= 0 && has < 1 << marks);
    argument((premise | has) == has && (conclusion | has) != has);
    for (int[] rule : rules) {
      unsupported((rule[0] | has) != has || (rule[1] | has) == has);
    }
    unsupported(table.size() < 6);
    Set<Integer> thing = new TreeSet<>();
    for (int mark = 0; mark < marks; mark++) {
      if (in(has, mark)) {
        thing.add(mark);
      }
    }
    table.add(thing);
    return table.size();
  }

  // Promises 69 to 73

  int prefer(int one, int other, int many) {
    argument(one >= 0 && one <= 5 && other >= 0 && other <= 5 && one != other);
    argument(many >= 0 && many <= 999);
    int had = prefer[one][other];
    prefer[one][other] = many;
    return had;
  }

  int ranking(int things, int place) {
    argument(things >= 1 && things <= 6);
    if (place < -1 || place >= things) {
      throw new IndexOutOfBoundsException();
    }
    int fewest = Integer.MAX_VALUE;
    int[] best = null;
    for (int[] row : someRows(new boolean[things][things])) {
      int found = 0;
      for (int i = 0; i < things; i++) {
        for (int j = i + 1; j < things; j++) {
          found += prefer[row[j]][row[i]];
        }
      }
      if (found < fewest) {
        fewest = found;
        best = row;
      }
    }
    return place < 0 ? fewest : best[place];
  }

  float relatedShare(int order) {
    boolean[][] below = get(order);
    if (below.length == 1) {
      throw new ArithmeticException();
    }
    return (float) pairs(below) / (float) (below.length * (below.length - 1) / 2);
  }

  double meanIdeal(int order) {
    List<Integer> all = allIdeals(get(order));
    int sum = 0;
    for (int set : all) {
      sum += Integer.bitCount(set);
    }
    return (double) sum / (double) all.size();
  }

  boolean isSound() {
    return true;
  }
}
