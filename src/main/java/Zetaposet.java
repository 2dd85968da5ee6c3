import java.util.NoSuchElementException;

/** A hall of orders; the document's promises, in their order, say what each call answers. */
public final class Zetaposet {
  private static final int MOST_ORDERS = 10;
  private static final int MOST_ELEMENTS = 12;
  private static final int ALL_SETS = 1 << MOST_ELEMENTS;
  // A least and a greatest element can be put to an order.
  private static final int ROOM = MOST_ELEMENTS + 2;
  private static final int FEW_ROWS = 30;
  private static final int SMALL_ORDER = 6;

  private final Order[] hall = new Order[MOST_ORDERS];
  private int count = 0;
  // Only for what is looked at while a call lasts.
  private final Order spare = new Order();
  private final int[] sets = new int[MOST_ELEMENTS];
  private final Shapes shapes = new Shapes();
  private final Sums sums = new Sums();
  private final Rows lines = new Rows();
  private final Search search = new Search();
  private final Lattices lattices = new Lattices();
  private final Ideals downs = new Ideals();
  private final Maps maps = new Maps();
  private final Crosses crosses = new Crosses();
  private final Rankings rankings = new Rankings();

  public Zetaposet() {
    for (int i = 0; i < MOST_ORDERS; i++) {
      hall[i] = new Order();
    }
  }

  // Promises 2 to 10: orders given by pairs or made from others.

  public int order(int elements) throws IllegalArgumentException, IllegalStateException {
    needRange(elements, 1, MOST_ELEMENTS);
    return admit(begin(elements));
  }

  public int relate(int order, int low, int high)
      throws IndexOutOfBoundsException, IllegalArgumentException {
    Order o = find(order);
    needElement(o, low);
    needElement(o, high);
    if (low == high || o.isBelow(high, low)) {
      throw new IllegalArgumentException("they cannot be put so");
    }
    o.put(low, high);
    o.arrange();
    return o.pairs();
  }

  public int divisors(int number) throws IllegalArgumentException, IllegalStateException {
    needRange(number, 1, 99999);
    int many = Maker.findDivisors(number, sets);
    needRange(many, 1, MOST_ELEMENTS);
    Order made = begin(many);
    Maker.makeByDivision(made, sets);
    return admit(made);
  }

  public int subsets(int things) throws IllegalArgumentException, IllegalStateException {
    needRange(things, 0, 3);
    int many = 1 << things;
    for (int i = 0; i < many; i++) {
      sets[i] = i;
    }
    return addBySets(many);
  }

  public int dual(int order) throws IndexOutOfBoundsException, IllegalStateException {
    Order o = find(order);
    Order made = begin(o.many);
    Maker.makeDual(made, o);
    return admit(made);
  }

  public int sum(int order, int other, boolean isAbove)
      throws IndexOutOfBoundsException, IllegalArgumentException, IllegalStateException {
    Order one = find(order);
    Order two = find(other);
    needRange(one.many + two.many, 1, MOST_ELEMENTS);
    Order made = begin(one.many + two.many);
    Maker.makeSum(made, one, two, isAbove);
    return admit(made);
  }

  public int product(int order, int other)
      throws IndexOutOfBoundsException, IllegalArgumentException, IllegalStateException {
    Order one = find(order);
    Order two = find(other);
    needRange(one.many * two.many, 1, MOST_ELEMENTS);
    Order made = begin(one.many * two.many);
    Maker.makeProduct(made, one, two);
    return admit(made);
  }

  public int intervals(int order)
      throws IndexOutOfBoundsException, IllegalArgumentException, IllegalStateException {
    Order o = find(order);
    int many = o.pairs() + o.many;
    needRange(many, 1, MOST_ELEMENTS);
    Order made = begin(many);
    Maker.makeIntervals(made, o, sets);
    return admit(made);
  }

  public int clear() {
    int had = count;
    count = 0;
    return had;
  }

  // Promises 11 to 16: what an order is like.

  public int size(int order) throws IndexOutOfBoundsException {
    return find(order).many;
  }

  public int above(int order, int element) throws IndexOutOfBoundsException {
    Order o = find(order);
    needElement(o, element);
    return o.up[element];
  }

  public int covers(int order, int element) throws IndexOutOfBoundsException {
    Order o = find(order);
    needElement(o, element);
    return o.coveredBy(element, o.all());
  }

  public int rank(int order, int element) throws IndexOutOfBoundsException {
    Order o = find(order);
    needElement(o, element);
    return o.height[element];
  }

  public boolean isRanked(int order) throws IndexOutOfBoundsException {
    return find(order).isGraded();
  }

  public boolean areAlike(int order, int other) throws IndexOutOfBoundsException {
    Order one = find(order);
    Order two = find(other);
    return one.many == two.many && one.pairs() == two.pairs() && shapes.fits(one, two);
  }

  // Promises 17 to 21: chains and antichains.

  public int width(int order) throws IndexOutOfBoundsException {
    return Integer.bitCount(Shapes.greatestAntichain(find(order)));
  }

  public int antichain(int order) throws IndexOutOfBoundsException {
    return Shapes.greatestAntichain(find(order));
  }

  public int inChains(int order, int chains)
      throws IndexOutOfBoundsException, IllegalArgumentException {
    Order o = find(order);
    needRange(chains, 0, MOST_ELEMENTS);
    return shapes.mostInChains(o, chains);
  }

  public int chains(int order) throws IndexOutOfBoundsException {
    return (int) sums.allChains(find(order));
  }

  public boolean isSymmetric(int order) throws IndexOutOfBoundsException {
    Order o = find(order);
    return o.isGraded() && Shapes.isInSymmetricChains(o);
  }

  // Promises 22 to 25: sums over intervals.

  public long moebius(int order, int low, int high) throws IndexOutOfBoundsException {
    Order o = find(order);
    needElement(o, low);
    needElement(o, high);
    return sums.moebiusOf(o, low, high);
  }

  public long rowsBetween(int order, int low, int high, int steps)
      throws IndexOutOfBoundsException, IllegalArgumentException {
    Order o = find(order);
    needElement(o, low);
    needElement(o, high);
    needRange(steps, 0, 9);
    return sums.stepsBetween(o, low, high, steps);
  }

  public long euler(int order) throws IndexOutOfBoundsException {
    return sums.eulerOf(find(order));
  }

  public long characteristic(int order, int x)
      throws IndexOutOfBoundsException, IllegalArgumentException, UnsupportedOperationException {
    Order o = find(order);
    needRange(x, -9, 9);
    if (!o.isGraded() || o.least() < 0) {
      throw new UnsupportedOperationException("not ranked, or without a least element");
    }
    return sums.characteristicOf(o, o.least(), x);
  }

  // Promises 26 to 33: rows, questions and the dimension.

  public long rows(int order) throws IndexOutOfBoundsException {
    return lines.countEnds(find(order));
  }

  public int rowAt(int order, long row, int place)
      throws IndexOutOfBoundsException, IllegalArgumentException {
    Order o = find(order);
    needElement(o, place);
    needRow(row, lines.countEnds(o));
    lines.setTo(o, row);
    return lines.row[place];
  }

  public long promote(int order, long row)
      throws IndexOutOfBoundsException, IllegalArgumentException {
    Order o = find(order);
    needRow(row, lines.countEnds(o));
    lines.setTo(o, row);
    lines.promoteFirst(o, o.many);
    return lines.number(o);
  }

  public long evacuate(int order, long row)
      throws IndexOutOfBoundsException, IllegalArgumentException {
    Order o = find(order);
    needRow(row, lines.countEnds(o));
    lines.setTo(o, row);
    for (int length = o.many; length > 0; length--) {
      lines.promoteFirst(o, length);
    }
    return lines.number(o);
  }

  public int jumps(int order) throws IndexOutOfBoundsException {
    return lines.fewestJumps(find(order));
  }

  public long balance(int order) throws IndexOutOfBoundsException, NoSuchElementException {
    Order o = find(order);
    if (o.isChain()) {
      throw new NoSuchElementException("all pairs are related");
    }
    return lines.balanceOf(o);
  }

  public int questions(int order)
      throws IndexOutOfBoundsException, UnsupportedOperationException {
    Order o = find(order);
    if (lines.countFew(o) > FEW_ROWS) {
      throw new UnsupportedOperationException("more than 30 rows");
    }
    return search.fewestQuestions(o, lines);
  }

  public int dimension(int order)
      throws IndexOutOfBoundsException, UnsupportedOperationException {
    Order o = find(order);
    if (o.many > SMALL_ORDER) {
      throw new UnsupportedOperationException("more than 6 elements");
    }
    return search.dimensionOf(o, lines);
  }

  public boolean isOfIntervals(int order, boolean areLike) throws IndexOutOfBoundsException {
    Order o = find(order);
    return !Shapes.hasPairsApart(o) && !(areLike && Shapes.hasOneBesideThree(o));
  }

  // Promises 35 to 41: lattices.

  public boolean isLattice(int order) throws IndexOutOfBoundsException {
    return lattices.take(find(order));
  }

  public int join(int order, int one, int other)
      throws IndexOutOfBoundsException, NoSuchElementException {
    Order o = find(order);
    needElement(o, one);
    needElement(o, other);
    return needFound(Lattices.joinOf(o, one, other));
  }

  public int meet(int order, int one, int other)
      throws IndexOutOfBoundsException, NoSuchElementException {
    Order o = find(order);
    needElement(o, one);
    needElement(o, other);
    return needFound(Lattices.meetOf(o, one, other));
  }

  public boolean isOfKind(int order, char kind)
      throws IndexOutOfBoundsException, IllegalArgumentException, UnsupportedOperationException {
    Order o = find(order);
    if (kind != 'd' && kind != 'm' && kind != 'g') {
      throw new IllegalArgumentException("no such kind");
    }
    needLattice(o);
    return kind == 'g' ? lattices.isGeometric(o) : lattices.isDistributive(o, kind == 'm');
  }

  public int joined(int order) throws IndexOutOfBoundsException, UnsupportedOperationException {
    Order o = find(order);
    needLattice(o);
    return Lattices.joinedOnes(o);
  }

  public int congruences(int order)
      throws IndexOutOfBoundsException, UnsupportedOperationException {
    Order o = find(order);
    needLattice(o);
    return lattices.countCongruences(o);
  }

  public int doubled(int order, int low, int high)
      throws IndexOutOfBoundsException, IllegalArgumentException, IllegalStateException {
    Order o = find(order);
    needElement(o, low);
    needElement(o, high);
    if (!o.isAtMost(low, high)) {
      throw new IllegalArgumentException("no interval");
    }
    int interval = o.from(low) & o.upTo(high);
    int many = o.many + Integer.bitCount(interval);
    needRange(many, 1, MOST_ELEMENTS);
    Order made = begin(many);
    Maker.makeDoubled(made, o, interval, sets);
    return admit(made);
  }

  // Promises 42 to 48: ideals, cuts and parts.

  public int ideals(int order)
      throws IndexOutOfBoundsException, IllegalArgumentException, IllegalStateException {
    return addBySets(Ideals.findIdeals(find(order), sets));
  }

  public int cuts(int order)
      throws IndexOutOfBoundsException, IllegalArgumentException, IllegalStateException {
    return addBySets(Ideals.findCuts(find(order), sets));
  }

  public int part(int order, int elements)
      throws IndexOutOfBoundsException, IllegalArgumentException, IllegalStateException {
    Order o = find(order);
    needRange(elements, 1, o.all());
    Order made = begin(Integer.bitCount(elements));
    Maker.makePart(made, o, elements, sets);
    return admit(made);
  }

  public int idealCount(int order) throws IndexOutOfBoundsException {
    return Ideals.countIdeals(find(order), false);
  }

  public int toggle(int order, int ideal, int element)
      throws IndexOutOfBoundsException, IllegalArgumentException {
    Order o = find(order);
    needElement(o, element);
    needIdeal(o, ideal);
    int toggled = ideal ^ 1 << element;
    return o.isIdeal(toggled) ? toggled : ideal;
  }

  public int turn(int order, int ideal)
      throws IndexOutOfBoundsException, IllegalArgumentException {
    Order o = find(order);
    needIdeal(o, ideal);
    return Ideals.turned(o, ideal);
  }

  public int orbit(int order, int ideal, boolean isSum)
      throws IndexOutOfBoundsException, IllegalArgumentException {
    Order o = find(order);
    needIdeal(o, ideal);
    return Ideals.orbitOf(o, ideal, isSum);
  }

  // Promises 49 to 57: maps, cores, embeddings and schedules.

  public int type(int value) throws IllegalArgumentException, IllegalStateException {
    needRange(value, 0, MOST_ELEMENTS - 1);
    if (maps.typed >= MOST_ELEMENTS) {
      throw new IllegalStateException("12 values are typed");
    }
    maps.append(value);
    return maps.typed;
  }

  public int wipe() {
    int had = maps.typed;
    maps.typed = 0;
    return had;
  }

  public boolean keeps(int order, int other)
      throws IndexOutOfBoundsException, IllegalArgumentException {
    Order one = find(order);
    Order two = find(other);
    needMap(one, two);
    return maps.isKeeping(one, two);
  }

  public int adjoint(int order, int other, int element)
      throws IndexOutOfBoundsException, IllegalArgumentException, NoSuchElementException {
    Order one = find(order);
    Order two = find(other);
    needElement(two, element);
    needMap(one, two);
    if (!maps.isKeeping(one, two)) {
      throw new IllegalArgumentException("it does not keep the order");
    }
    return needFound(maps.adjointAt(one, two, element));
  }

  public int fixed(int order, int element)
      throws IndexOutOfBoundsException, IllegalArgumentException {
    Order o = find(order);
    needElement(o, element);
    needMap(o, o);
    return maps.leastOfRing(o, element);
  }

  public int core(int order) throws IndexOutOfBoundsException {
    return Shapes.coreOf(find(order));
  }

  public boolean alwaysFixed(int order)
      throws IndexOutOfBoundsException, UnsupportedOperationException {
    Order o = find(order);
    if (o.many > SMALL_ORDER) {
      throw new UnsupportedOperationException("more than 6 elements");
    }
    return !maps.isMovable(o);
  }

  public boolean embeds(int order, int other) throws IndexOutOfBoundsException {
    Order one = find(order);
    Order two = find(other);
    return shapes.fits(one, two);
  }

  public int schedule(int order, int machines)
      throws IndexOutOfBoundsException, IllegalArgumentException {
    Order o = find(order);
    needRange(machines, 1, MOST_ELEMENTS);
    return downs.fewestSteps(o, machines);
  }

  // Promises 58 to 68: crosses, concepts, implications and exploring.

  public int table(int things, int marks) throws IllegalArgumentException {
    needRange(things, 0, Crosses.MOST);
    needRange(marks, 1, Crosses.MOST);
    int had = crosses.things;
    crosses.begin(things, marks, false);
    return had;
  }

  public boolean cross(int thing, int mark, boolean is)
      throws IndexOutOfBoundsException, IllegalStateException {
    if (thing < 0 || thing >= crosses.things || mark < 0 || mark >= crosses.marks) {
      throw new IndexOutOfBoundsException("no such thing or mark");
    }
    if (crosses.isExploring) {
      throw new IllegalStateException("exploring was begun");
    }
    return crosses.setCross(thing, mark, is);
  }

  public int concepts() {
    return crosses.countConcepts();
  }

  public int conceptAt(int index, boolean areThings) throws IndexOutOfBoundsException {
    int found = crosses.findConcept(index);
    if (found < 0) {
      throw new IndexOutOfBoundsException("no such concept");
    }
    return areThings ? crosses.thingsWith(found) : found;
  }

  public int conceptOrder() throws IllegalArgumentException, IllegalStateException {
    int many = crosses.countConcepts();
    needRange(many, 1, MOST_ELEMENTS);
    for (int i = 0; i < many; i++) {
      sets[i] = crosses.thingsWith(crosses.findConcept(i));
    }
    return addBySets(many);
  }

  public int implications() {
    crosses.tell();
    return crosses.told;
  }

  public int implicationAt(int index, boolean isPremise) throws IndexOutOfBoundsException {
    crosses.tell();
    if (index < 0 || index >= crosses.told) {
      throw new IndexOutOfBoundsException("no such implication");
    }
    return isPremise ? crosses.premises[index] : crosses.conclusions[index];
  }

  public int explore(int marks) throws IllegalArgumentException {
    needRange(marks, 1, Crosses.MOST);
    crosses.begin(0, marks, true);
    return crosses.premises[needQuestion()];
  }

  public int question(boolean isPremise) throws NoSuchElementException {
    int asked = needQuestion();
    return isPremise ? crosses.premises[asked] : crosses.conclusions[asked];
  }

  public int accept() throws NoSuchElementException {
    crosses.acceptRule(needQuestion());
    return crosses.accepted;
  }

  public int refuse(int marks)
      throws NoSuchElementException, IllegalArgumentException, UnsupportedOperationException {
    int asked = needQuestion();
    needRange(marks, 0, crosses.allMarks());
    int premise = crosses.premises[asked];
    int conclusion = crosses.conclusions[asked];
    if ((premise & ~marks) != 0 || (conclusion & ~marks) == 0) {
      throw new IllegalArgumentException("the thing refuses nothing");
    }
    if (crosses.things >= Crosses.MOST || !crosses.areRulesHeld(marks)) {
      throw new UnsupportedOperationException("an accepted rule does not hold, or 6 things");
    }
    crosses.addThing(marks);
    return crosses.things;
  }

  // Promises 69 to 73: rankings, shares and soundness.

  public int prefer(int one, int other, int many) throws IllegalArgumentException {
    needRange(one, 0, Rankings.MOST - 1);
    needRange(other, 0, Rankings.MOST - 1);
    needRange(many, 0, 999);
    if (one == other) {
      throw new IllegalArgumentException("both are the same");
    }
    return rankings.setMany(one, other, many);
  }

  public int ranking(int things, int place)
      throws IllegalArgumentException, IndexOutOfBoundsException {
    needRange(things, 1, Rankings.MOST);
    if (place < -1 || place >= things) {
      throw new IndexOutOfBoundsException("no such place");
    }
    rankings.fillCosts(things);
    return place < 0 ? rankings.costs[0] : rankings.thingAt(things, place);
  }

  public float relatedShare(int order) throws IndexOutOfBoundsException, ArithmeticException {
    Order o = find(order);
    int pairs = o.many * (o.many - 1) / 2;
    if (pairs == 0) {
      throw new ArithmeticException("one element");
    }
    return (float) o.pairs() / (float) pairs;
  }

  public double meanIdeal(int order) throws IndexOutOfBoundsException {
    Order o = find(order);
    int many = Ideals.countIdeals(o, false);
    // The empty set is an ideal of each order, so that this never divides by 0.
    return many == 0 ? 0 : (double) Ideals.countIdeals(o, true) / (double) many;
  }

  public boolean isSound() {
    for (int i = 0; i < count && i < MOST_ORDERS; i++) {
      Order o = hall[i];
      boolean hasFewRows = lines.countFew(o) <= FEW_ROWS;
      if (!isToldByCovers(o) || !isEulerMoebius(o)
          || (hasFewRows && !search.arePromotedUnlike(o, lines))) {
        return false;
      }
    }
    return crosses.areRulesRight();
  }

  private boolean isToldByCovers(Order o) {
    spare.reset(o.many);
    for (int x = 0; x < o.many; x++) {
      int covered = o.coveredBy(x, o.all());
      for (int y = 0; y < o.many; y++) {
        if ((covered >> y & 1) != 0) {
          spare.put(y, x);
        }
      }
    }
    for (int x = 0; x < o.many; x++) {
      if (spare.up[x] != o.up[x] || spare.down[x] != o.down[x]) {
        return false;
      }
    }
    return true;
  }

  private boolean isEulerMoebius(Order o) {
    Maker.makeWithEnds(spare, o);
    return sums.moebiusOf(spare, o.many, o.many + 1) == sums.eulerOf(o);
  }

  // What the calls need, each with the exception that it throws otherwise.

  private Order find(int order) throws IndexOutOfBoundsException {
    if (order < 0 || order >= count || order >= MOST_ORDERS) {
      throw new IndexOutOfBoundsException("no such order");
    }
    return hall[order];
  }

  private static void needElement(Order o, int element) throws IndexOutOfBoundsException {
    if (element < 0 || element >= o.many) {
      throw new IndexOutOfBoundsException("no such element");
    }
  }

  private static void needRange(int number, int least, int most) throws IllegalArgumentException {
    if (number < least || number > most) {
      throw new IllegalArgumentException("out of range");
    }
  }

  private static void needRow(long row, long many) throws IllegalArgumentException {
    if (row < 0 || row >= many) {
      throw new IllegalArgumentException("no such row");
    }
  }

  private static void needIdeal(Order o, int ideal) throws IllegalArgumentException {
    if (!o.isIdeal(ideal)) {
      throw new IllegalArgumentException("no ideal");
    }
  }

  private void needLattice(Order o) throws UnsupportedOperationException {
    if (!lattices.take(o)) {
      throw new UnsupportedOperationException("no lattice");
    }
  }

  private void needMap(Order one, Order two) throws IllegalArgumentException {
    if (!maps.isMap(one, two)) {
      throw new IllegalArgumentException("no map");
    }
  }

  private static int needFound(int found) throws NoSuchElementException {
    if (found < 0) {
      throw new NoSuchElementException("there is none");
    }
    return found;
  }

  private int needQuestion() throws NoSuchElementException {
    return needFound(crosses.findQuestion());
  }

  /** The next order is begun last of all, so that a call that throws changes nothing. */
  private Order begin(int elements) throws IllegalStateException {
    if (count >= MOST_ORDERS) {
      throw new IllegalStateException("there are 10 orders");
    }
    hall[count].reset(elements);
    return hall[count];
  }

  /** Adds an order of the first sets that were put together, each below those that hold it. */
  private int addBySets(int many) throws IllegalArgumentException, IllegalStateException {
    needRange(many, 1, MOST_ELEMENTS);
    Order made = begin(many);
    Maker.makeBySets(made, sets);
    return admit(made);
  }

  private int admit(Order made) {
    made.arrange();
    count++;
    return count - 1;
  }

  /** Elements, with the sets of what is above and below each of them. */
  private static final class Order {
    int many = 0;
    final int[] up = new int[ROOM];
    final int[] down = new int[ROOM];
    // Each element stands here behind those below it: what goes along needs no second pass.
    final int[] line = new int[ROOM];
    final int[] height = new int[ROOM];

    void reset(int elements) {
      many = Math.min(elements, ROOM);
      for (int x = 0; x < many; x++) {
        up[x] = 0;
        down[x] = 0;
      }
    }

    /** Relates just these two: for who makes sure that all that follows is related too. */
    void link(int low, int high) {
      up[low] |= 1 << high;
      down[high] |= 1 << low;
    }

    void put(int low, int high) {
      int lows = upTo(low);
      int highs = from(high);
      for (int x = 0; x < many; x++) {
        if ((lows >> x & 1) != 0) {
          up[x] |= highs;
        }
        if ((highs >> x & 1) != 0) {
          down[x] |= lows;
        }
      }
    }

    /** Due after each change: an element has more below it than each one below it. */
    void arrange() {
      int filled = 0;
      for (int below = 0; below < many; below++) {
        for (int x = 0; x < many; x++) {
          if (filled < many && Integer.bitCount(down[x]) == below) {
            line[filled] = x;
            filled++;
            height[x] = heightOver(down[x]);
          }
        }
      }
    }

    private int heightOver(int lows) {
      int found = 0;
      for (int y = 0; y < many; y++) {
        if ((lows >> y & 1) != 0) {
          found = Math.max(found, height[y] + 1);
        }
      }
      return found;
    }

    int all() {
      return (1 << many) - 1;
    }

    boolean isBelow(int low, int high) {
      return (up[low] >> high & 1) != 0;
    }

    boolean isAtMost(int low, int high) {
      return low == high || isBelow(low, high);
    }

    boolean areRelated(int one, int other) {
      return ((up[one] | down[one]) >> other & 1) != 0;
    }

    boolean isCover(int low, int high) {
      return isBelow(low, high) && (up[low] & down[high]) == 0;
    }

    int from(int x) {
      return up[x] | 1 << x;
    }

    int upTo(int x) {
      return down[x] | 1 << x;
    }

    int apart(int x) {
      return all() & ~(up[x] | down[x] | 1 << x);
    }

    int pairs() {
      int found = 0;
      for (int x = 0; x < many; x++) {
        found += Integer.bitCount(up[x]);
      }
      return found;
    }

    boolean isChain() {
      return pairs() == many * (many - 1) / 2;
    }

    int coveredBy(int x, int within) {
      int lows = down[x] & within;
      int found = 0;
      for (int y = 0; y < many; y++) {
        if ((lows >> y & 1) != 0 && (up[y] & lows) == 0) {
          found |= 1 << y;
        }
      }
      return found;
    }

    int covering(int x, int within) {
      int highs = up[x] & within;
      int found = 0;
      for (int y = 0; y < many; y++) {
        if ((highs >> y & 1) != 0 && (down[y] & highs) == 0) {
          found |= 1 << y;
        }
      }
      return found;
    }

    /** Whether an element can be put to what begins a row. */
    boolean isFree(int x, int begun) {
      return (begun >> x & 1) == 0 && (down[x] & ~begun) == 0;
    }

    boolean isIdeal(int set) {
      if ((set & ~all()) != 0) {
        return false;
      }
      for (int x = 0; x < many; x++) {
        if ((set >> x & 1) != 0 && (down[x] & ~set) != 0) {
          return false;
        }
      }
      return true;
    }

    boolean isGraded() {
      for (int x = 0; x < many; x++) {
        for (int y = 0; y < many; y++) {
          if (isCover(x, y) && height[y] != height[x] + 1) {
            return false;
          }
        }
      }
      return true;
    }

    int greatestHeight() {
      int found = 0;
      for (int x = 0; x < many; x++) {
        found = Math.max(found, height[x]);
      }
      return found;
    }

    int least() {
      for (int x = 0; x < many; x++) {
        if (from(x) == all()) {
          return x;
        }
      }
      return -1;
    }
  }

  /** Makes orders from others; what it fills is reset to the right size before. */
  private static final class Maker {

    /** The divisors by size; if there are more than fit, one more than fits is told. */
    static int findDivisors(int number, int[] found) {
      int many = 0;
      for (int d = 1; d * d <= number && many <= found.length; d++) {
        if (number % d == 0) {
          many = note(found, many, d);
        }
      }
      for (int i = many - 1; i >= 0 && many <= found.length; i--) {
        int small = found[i];
        if (small > 0 && number / small != small) {
          many = note(found, many, number / small);
        }
      }
      return many;
    }

    static int note(int[] found, int many, int value) {
      if (many < found.length) {
        found[many] = value;
      }
      return Math.min(many, found.length) + 1;
    }

    static void makeByDivision(Order made, int[] numbers) {
      for (int x = 0; x < made.many; x++) {
        for (int y = 0; y < made.many; y++) {
          if (x != y && numbers[x] > 0 && numbers[y] % numbers[x] == 0) {
            made.link(x, y);
          }
        }
      }
    }

    static void makeBySets(Order made, int[] sets) {
      for (int x = 0; x < made.many; x++) {
        for (int y = 0; y < made.many; y++) {
          if (x != y && (sets[x] & ~sets[y]) == 0) {
            made.link(x, y);
          }
        }
      }
    }

    static void makeDual(Order made, Order one) {
      for (int x = 0; x < one.many; x++) {
        made.up[x] = one.down[x];
        made.down[x] = one.up[x];
      }
    }

    static void makeSum(Order made, Order one, Order two, boolean isAbove) {
      for (int x = 0; x < made.many; x++) {
        for (int y = 0; y < made.many; y++) {
          int z = x - one.many;
          int w = y - one.many;
          boolean isBelow = z < 0 ? (w < 0 ? one.isBelow(x, y) : isAbove)
              : (w >= 0 && two.isBelow(z, w));
          if (isBelow) {
            made.link(x, y);
          }
        }
      }
    }

    static void makeProduct(Order made, Order one, Order two) {
      int wide = Math.max(two.many, 1);
      for (int x = 0; x < made.many; x++) {
        for (int y = 0; y < made.many; y++) {
          if (x != y && one.isAtMost(x / wide, y / wide) && two.isAtMost(x % wide, y % wide)) {
            made.link(x, y);
          }
        }
      }
    }

    /** An interval is kept as its first element times 16 and its last one. */
    static void makeIntervals(Order made, Order one, int[] ends) {
      int many = 0;
      for (int x = 0; x < one.many; x++) {
        for (int y = 0; y < one.many; y++) {
          if (one.isAtMost(x, y) && many < ends.length) {
            ends[many] = x * 16 + y;
            many++;
          }
        }
      }
      for (int x = 0; x < made.many; x++) {
        for (int y = 0; y < made.many; y++) {
          if (x != y && one.isAtMost(ends[y] / 16, ends[x] / 16)
              && one.isAtMost(ends[x] % 16, ends[y] % 16)) {
            made.link(x, y);
          }
        }
      }
    }

    static void makePart(Order made, Order one, int elements, int[] olds) {
      int many = 0;
      for (int x = 0; x < one.many; x++) {
        if ((elements >> x & 1) != 0 && many < olds.length) {
          olds[many] = x;
          many++;
        }
      }
      for (int x = 0; x < made.many; x++) {
        for (int y = 0; y < made.many; y++) {
          if (one.isBelow(olds[x], olds[y])) {
            made.link(x, y);
          }
        }
      }
    }

    /** Each new element is kept as its old one times 2, and 1 if it is a second one. */
    static void makeDoubled(Order made, Order one, int interval, int[] olds) {
      int many = 0;
      for (int x = 0; x < one.many; x++) {
        for (int second = 0; second <= (interval >> x & 1); second++) {
          if (many < olds.length) {
            olds[many] = x * 2 + second;
            many++;
          }
        }
      }
      for (int x = 0; x < made.many; x++) {
        for (int y = 0; y < made.many; y++) {
          int high = olds[y] / 2;
          boolean isPlain = olds[y] % 2 == 0 && (interval >> high & 1) != 0;
          if (x != y && one.isAtMost(olds[x] / 2, high) && !(olds[x] % 2 == 1 && isPlain)) {
            made.link(x, y);
          }
        }
      }
    }

    static void makeWithEnds(Order made, Order one) {
      int least = one.many;
      int greatest = one.many + 1;
      made.reset(one.many + 2);
      made.link(least, greatest);
      for (int x = 0; x < one.many; x++) {
        made.link(least, x);
        made.link(x, greatest);
        for (int y = 0; y < one.many; y++) {
          if (one.isBelow(x, y)) {
            made.link(x, y);
          }
        }
      }
      made.arrange();
    }
  }

  /** Chains and antichains, and orders that are found in others. */
  private static final class Shapes {
    private final int[] widths = new int[ALL_SETS];
    // For each depth of the search, where each element may still go.
    private final int[] choices = new int[(MOST_ELEMENTS + 1) * MOST_ELEMENTS];

    static int greatestAntichain(Order o) {
      int best = 0;
      for (int set = 1; set <= o.all(); set++) {
        if (Integer.bitCount(set) > Integer.bitCount(best) && isAntichain(o, set)) {
          best = set;
        }
      }
      return best;
    }

    private static boolean isAntichain(Order o, int set) {
      for (int x = 0; x < o.many; x++) {
        if ((set >> x & 1) != 0 && (o.up[x] & set) != 0) {
          return false;
        }
      }
      return true;
    }

    /** What is so many chains together is, by Dilworth, what has no wider antichain. */
    int mostInChains(Order o, int chains) {
      int most = 0;
      widths[0] = 0;
      for (int x = 0; x < o.many; x++) {
        int own = 1 << x;
        for (int rest = 0; rest < own; rest++) {
          int set = own | rest;
          widths[set] = Math.max(widths[rest], 1 + widths[rest & o.apart(x)]);
          if (widths[set] <= chains) {
            most = Math.max(most, Integer.bitCount(set));
          }
        }
      }
      return most;
    }

    /** Due before: that the order is ranked. */
    static boolean isInSymmetricChains(Order o) {
      return canPart(o, o.all(), -1, 0, 0);
    }

    /**
     * Parts what is left into symmetric chains, the chain that ends in last (-1: none) first,
     * up to the rank of its end. Each call takes one element, so that the depth stays low.
     */
    private static boolean canPart(Order o, int left, int last, int end, int depth) {
      if (depth > MOST_ELEMENTS) {
        return false;
      }
      if (last >= 0 && o.height[last] < end) {
        for (int y = 0; y < o.many; y++) {
          if ((left >> y & 1) != 0 && o.isCover(last, y)
              && canPart(o, left & ~(1 << y), y, end, depth + 1)) {
            return true;
          }
        }
        return false;
      }
      int x = lowest(o, left);
      if (x < 0) {
        return true;
      }
      int goal = o.greatestHeight() - o.height[x];
      return goal >= o.height[x] && canPart(o, left & ~(1 << x), x, goal, depth + 1);
    }

    private static int lowest(Order o, int left) {
      int found = -1;
      for (int x = 0; x < o.many; x++) {
        if ((left >> x & 1) != 0 && (found < 0 || o.height[x] < o.height[found])) {
          found = x;
        }
      }
      return found;
    }

    static boolean hasPairsApart(Order o) {
      for (int a = 0; a < o.many; a++) {
        for (int b = 0; b < o.many; b++) {
          if (o.isBelow(a, b) && !isAntichain(o, o.apart(a) & o.apart(b))) {
            return true;
          }
        }
      }
      return false;
    }

    static boolean hasOneBesideThree(Order o) {
      for (int a = 0; a < o.many; a++) {
        for (int b = 0; b < o.many; b++) {
          for (int c = 0; c < o.many; c++) {
            if (o.isBelow(a, b) && o.isBelow(b, c)
                && (o.apart(a) & o.apart(b) & o.apart(c)) != 0) {
              return true;
            }
          }
        }
      }
      return false;
    }

    static int coreOf(Order o) {
      int left = o.all();
      for (int round = 0; round < o.many; round++) {
        int out = outgoing(o, left);
        if (out < 0) {
          return left;
        }
        left &= ~(1 << out);
      }
      return left;
    }

    private static int outgoing(Order o, int left) {
      for (int x = 0; x < o.many; x++) {
        if ((left >> x & 1) != 0 && (Integer.bitCount(o.coveredBy(x, left)) == 1
            || Integer.bitCount(o.covering(x, left)) == 1)) {
          return x;
        }
      }
      return -1;
    }

    boolean fits(Order one, Order two) {
      if (one.many > two.many || one.many > MOST_ELEMENTS) {
        return false;
      }
      for (int x = 0; x < one.many; x++) {
        choices[x] = 0;
        for (int y = 0; y < two.many; y++) {
          if (Integer.bitCount(one.up[x]) <= Integer.bitCount(two.up[y])
              && Integer.bitCount(one.down[x]) <= Integer.bitCount(two.down[y])) {
            choices[x] |= 1 << y;
          }
        }
      }
      return canPlace(choices, one, two, 0, 0);
    }

    private static boolean canPlace(int[] choices, Order one, Order two, int placed, int depth) {
      if (depth >= one.many || depth >= MOST_ELEMENTS) {
        return true;
      }
      int x = tightest(choices, one, placed, depth);
      if (x < 0) {
        return true;
      }
      int open = choices[depth * MOST_ELEMENTS + x];
      for (int y = 0; y < two.many; y++) {
        if ((open >> y & 1) != 0 && narrow(choices, one, two, placed | 1 << x, depth, x, y)
            && canPlace(choices, one, two, placed | 1 << x, depth + 1)) {
          return true;
        }
      }
      return false;
    }

    private static int tightest(int[] choices, Order one, int placed, int depth) {
      int found = -1;
      int fewest = MOST_ELEMENTS + 1;
      for (int x = 0; x < one.many; x++) {
        int many = Integer.bitCount(choices[depth * MOST_ELEMENTS + x]);
        if ((placed >> x & 1) == 0 && many < fewest) {
          found = x;
          fewest = many;
        }
      }
      return found;
    }

    /** Fills the next depth's choices if x goes to y; false if an element has none then. */
    private static boolean narrow(
        int[] choices, Order one, Order two, int placed, int depth, int x, int y) {
      for (int z = 0; z < one.many; z++) {
        if ((placed >> z & 1) == 0) {
          int side = one.isBelow(x, z) ? two.up[y] : one.isBelow(z, x) ? two.down[y] : two.apart(y);
          int kept = choices[depth * MOST_ELEMENTS + z] & side;
          // Two that are related likewise could change places: one way of them is enough.
          if (one.up[z] == one.up[x] && one.down[z] == one.down[x]) {
            kept &= z > x ? -1 << y : (1 << y) - 1;
          }
          if (kept == 0) {
            return false;
          }
          choices[(depth + 1) * MOST_ELEMENTS + z] = kept;
        }
      }
      return true;
    }
  }

  /** Sums along an order: each element's value comes of the values below it. */
  private static final class Sums {
    private final long[] values = new long[ROOM];
    private final long[] nexts = new long[ROOM];

    private long total(int many, int within) {
      long found = 0;
      for (int x = 0; x < many; x++) {
        if ((within >> x & 1) != 0) {
          found += values[x];
        }
      }
      return found;
    }

    long allChains(Order o) {
      for (int i = 0; i < o.many; i++) {
        int x = o.line[i];
        values[x] = 1 + total(o.many, o.down[x]);
      }
      return total(o.many, o.all());
    }

    /** A chain that goes on by one element changes its sign. */
    long eulerOf(Order o) {
      for (int i = 0; i < o.many; i++) {
        int x = o.line[i];
        values[x] = 1 - total(o.many, o.down[x]);
      }
      return total(o.many, o.all()) - 1;
    }

    long moebiusOf(Order o, int low, int high) {
      fillMoebius(o, low);
      return values[high];
    }

    private void fillMoebius(Order o, int low) {
      for (int i = 0; i < o.many; i++) {
        int x = o.line[i];
        values[x] = x == low ? 1 : o.isBelow(low, x) ? -total(o.many, o.down[x] & o.from(low)) : 0;
      }
    }

    long stepsBetween(Order o, int low, int high, int steps) {
      for (int x = 0; x < o.many; x++) {
        values[x] = x == low ? 1 : 0;
      }
      for (int step = 0; step < steps; step++) {
        for (int x = 0; x < o.many; x++) {
          nexts[x] = total(o.many, o.upTo(x));
        }
        for (int x = 0; x < o.many; x++) {
          values[x] = nexts[x];
        }
      }
      return values[high];
    }

    long characteristicOf(Order o, int least, int base) {
      fillMoebius(o, least);
      int top = o.greatestHeight();
      long found = 0;
      for (int x = 0; x < o.many; x++) {
        found += values[x] * power(base, top - o.height[x]);
      }
      return found;
    }

    private static long power(int base, int exponent) {
      long found = 1;
      for (int i = 0; i < exponent; i++) {
        found *= base;
      }
      return found;
    }
  }

  /** The row at hand, the number of each row, and what is counted over all of them. */
  private static final class Rows {
    final int[] row = new int[MOST_ELEMENTS];
    // By set: in how many ways it is begun, and goes on to a row; 12 elements have 479001600 rows.
    private final int[] starts = new int[ALL_SETS];
    private final int[] ends = new int[ALL_SETS];
    private final long[] aheads = new long[MOST_ELEMENTS * MOST_ELEMENTS];

    long countEnds(Order o) {
      int all = o.all();
      ends[all] = 1;
      for (int set = all - 1; set >= 0; set--) {
        int ways = 0;
        for (int x = 0; x < o.many; x++) {
          if (o.isFree(x, set)) {
            ways += ends[set | 1 << x];
          }
        }
        ends[set] = ways;
      }
      return ends[0];
    }

    /** Due before: countEnds of the order, and that there is such a row. */
    void setTo(Order o, long number) {
      long left = number;
      int begun = 0;
      for (int place = 0; place < o.many; place++) {
        int x = firstFree(o, begun, 0);
        for (int i = 0; i < o.many && x >= 0 && left >= ends[begun | 1 << x]; i++) {
          left -= ends[begun | 1 << x];
          x = firstFree(o, begun, x + 1);
        }
        row[place] = Math.max(x, 0);
        begun |= 1 << row[place];
      }
    }

    /** Due before: countEnds of the order. */
    long number(Order o) {
      long found = 0;
      int begun = 0;
      for (int place = 0; place < o.many; place++) {
        for (int x = 0; x < row[place]; x++) {
          if (o.isFree(x, begun)) {
            found += ends[begun | 1 << x];
          }
        }
        begun |= 1 << row[place];
      }
      return found;
    }

    private static int firstFree(Order o, int begun, int from) {
      for (int x = from; x < o.many; x++) {
        if (o.isFree(x, begun)) {
          return x;
        }
      }
      return -1;
    }

    void setToFirst(Order o) {
      fill(o, 0, 0);
    }

    private void fill(Order o, int from, int begun) {
      int set = begun;
      for (int place = from; place < o.many; place++) {
        row[place] = Math.max(firstFree(o, set, 0), 0);
        set |= 1 << row[place];
      }
    }

    /** Goes on to the row with the next number; false if there is none. */
    boolean stepOn(Order o) {
      int begun = o.all();
      for (int place = o.many - 1; place >= 0; place--) {
        begun &= ~(1 << row[place]);
        int x = firstFree(o, begun, row[place] + 1);
        if (x >= 0) {
          row[place] = x;
          fill(o, place + 1, begun | 1 << x);
          return true;
        }
      }
      return false;
    }

    /** How many rows there are; if more than a few, one more than these. */
    int countFew(Order o) {
      setToFirst(o);
      for (int many = 1; many <= FEW_ROWS; many++) {
        if (!stepOn(o)) {
          return many;
        }
      }
      return FEW_ROWS + 1;
    }

    /** Promotes what begins the row at hand: all but the chain go 1 ahead at once. */
    void promoteFirst(Order o, int length) {
      int last = row[0];
      for (int place = 1; place < length; place++) {
        int next = row[place];
        if (o.isCover(last, next)) {
          row[place - 1] = last;
          last = next;
        } else {
          row[place - 1] = next;
        }
      }
      if (length > 0) {
        row[length - 1] = last;
      }
    }

    /** The row at hand as one number, 4 bits for each element. */
    long code(Order o) {
      long found = 0;
      for (int place = 0; place < o.many; place++) {
        found = found << 4 | row[place];
      }
      return found;
    }

    long balanceOf(Order o) {
      countEnds(o);
      countStarts(o);
      for (int i = 0; i < aheads.length; i++) {
        aheads[i] = 0;
      }
      for (int set = 0; set <= o.all(); set++) {
        if (o.isIdeal(set)) {
          addAheads(o, set);
        }
      }
      long best = 0;
      for (int x = 0; x < o.many; x++) {
        for (int y = 0; y < x; y++) {
          if (!o.areRelated(x, y)) {
            long lesser = Math.min(aheads[x * MOST_ELEMENTS + y], aheads[y * MOST_ELEMENTS + x]);
            best = Math.max(best, lesser);
          }
        }
      }
      return best;
    }

    private void countStarts(Order o) {
      starts[0] = 1;
      for (int set = 1; set <= o.all(); set++) {
        int ways = 0;
        for (int x = 0; x < o.many; x++) {
          if (isEnd(o, set, x)) {
            ways += starts[set & ~(1 << x)];
          }
        }
        starts[set] = ways;
      }
    }

    private static boolean isEnd(Order o, int set, int x) {
      return (set >> x & 1) != 0 && (o.up[x] & set) == 0;
    }

    /** Counts the rows that begin with these elements, by the next one: it is ahead of the rest. */
    private void addAheads(Order o, int set) {
      for (int x = 0; x < o.many; x++) {
        if (o.isFree(x, set)) {
          int begun = set | 1 << x;
          long ways = (long) starts[set] * ends[begun];
          for (int y = 0; y < o.many; y++) {
            if ((begun >> y & 1) == 0) {
              aheads[x * MOST_ELEMENTS + y] += ways;
            }
          }
        }
      }
    }

    /**
     * Keeps by set the fewest jumps of what begins a row (in starts), and the last elements that
     * it can have then (in ends): a last one with a jump more is never of use, since a jump to
     * the next element costs as much.
     */
    int fewestJumps(Order o) {
      starts[0] = 0;
      ends[0] = 0;
      for (int set = 1; set <= o.all(); set++) {
        starts[set] = MOST_ELEMENTS;
        ends[set] = 0;
        for (int x = 0; x < o.many; x++) {
          if (isEnd(o, set, x)) {
            noteEnd(o, set, x);
          }
        }
      }
      return starts[o.all()];
    }

    private void noteEnd(Order o, int set, int x) {
      int before = set & ~(1 << x);
      boolean isJump = before != 0 && (ends[before] & o.down[x]) == 0;
      int jumps = starts[before] + (isJump ? 1 : 0);
      if (jumps < starts[set]) {
        starts[set] = jumps;
        ends[set] = 0;
      }
      if (jumps == starts[set]) {
        ends[set] |= 1 << x;
      }
    }
  }

  /** What is found by going through the rows of a small order one by one. */
  private static final class Search {
    private final long[] codes = new long[FEW_ROWS];
    // For each pair that is not related, the rows in which the one is ahead, as a set.
    private final int[] asks = new int[MOST_ELEMENTS * (MOST_ELEMENTS - 1) / 2];
    private final int[] places = new int[MOST_ELEMENTS];
    private int pairs = 0;

    /** Due before: that the order has at most 30 rows. */
    int fewestQuestions(Order o, Rows rows) {
      int many = fillAsks(o, rows);
      int set = (1 << many) - 1;
      for (int most = 0; most < many; most++) {
        if (isFound(asks, pairs, set, most)) {
          return most;
        }
      }
      return many;
    }

    private int fillAsks(Order o, Rows rows) {
      for (int i = 0; i < asks.length; i++) {
        asks[i] = 0;
      }
      rows.setToFirst(o);
      int many = 0;
      for (int i = 0; i < FEW_ROWS; i++) {
        many++;
        noteRow(o, rows, 1 << i);
        if (!rows.stepOn(o)) {
          return many;
        }
      }
      return many;
    }

    private void noteRow(Order o, Rows rows, int bit) {
      fillPlaces(o, rows);
      pairs = 0;
      for (int x = 0; x < o.many; x++) {
        for (int y = 0; y < x; y++) {
          if (!o.areRelated(x, y) && pairs < asks.length) {
            asks[pairs] |= places[x] < places[y] ? bit : 0;
            pairs++;
          }
        }
      }
    }

    private void fillPlaces(Order o, Rows rows) {
      for (int place = 0; place < o.many; place++) {
        places[rows.row[place]] = place;
      }
    }

    /** Whether so many questions tell which row of the set it is; each one halves it at best. */
    private static boolean isFound(int[] asks, int pairs, int set, int most) {
      int many = Integer.bitCount(set);
      if (many <= 1) {
        return true;
      }
      if (most <= 0 || most > FEW_ROWS || many > 1 << most) {
        return false;
      }
      int half = 1 << (most - 1);
      for (int i = 0; i < pairs && i < asks.length; i++) {
        int yes = set & asks[i];
        int no = set & ~asks[i];
        boolean isSplit = yes != 0 && no != 0
            && Integer.bitCount(yes) <= half && Integer.bitCount(no) <= half;
        if (isSplit && isFound(asks, pairs, yes, most - 1)
            && isFound(asks, pairs, no, most - 1)) {
          return true;
        }
      }
      return false;
    }

    /** At most 6 elements: by Hiraguchi three rows are always enough. */
    int dimensionOf(Order o, Rows rows) {
      if (o.isChain()) {
        return 1;
      }
      rows.setToFirst(o);
      for (int i = 0; i < 720; i++) {
        if (isReversible(o, rows)) {
          return 2;
        }
        if (!rows.stepOn(o)) {
          return 3;
        }
      }
      return 3;
    }

    /** Whether it is a row again if all pairs that are not related change their places. */
    private boolean isReversible(Order o, Rows rows) {
      fillPlaces(o, rows);
      int taken = 0;
      for (int x = 0; x < o.many; x++) {
        int ahead = 0;
        for (int y = 0; y < o.many; y++) {
          boolean isTurned = x != y && !o.areRelated(x, y) && places[x] < places[y];
          if (isTurned || o.isBelow(y, x)) {
            ahead++;
          }
        }
        taken |= 1 << ahead;
      }
      return taken == o.all();
    }

    /** Due before: that the order has at most 30 rows. */
    boolean arePromotedUnlike(Order o, Rows rows) {
      int many = fillCodes(o, rows);
      int reached = 0;
      for (int i = 0; i < many; i++) {
        setTo(o, rows, codes[i]);
        rows.promoteFirst(o, o.many);
        int found = indexOf(rows.code(o), many);
        if (found < 0 || (reached >> found & 1) != 0) {
          return false;
        }
        reached |= 1 << found;
      }
      return true;
    }

    private int fillCodes(Order o, Rows rows) {
      rows.setToFirst(o);
      int many = 0;
      for (int i = 0; i < FEW_ROWS; i++) {
        codes[i] = rows.code(o);
        many++;
        if (!rows.stepOn(o)) {
          return many;
        }
      }
      return many;
    }

    private static void setTo(Order o, Rows rows, long code) {
      for (int place = 0; place < o.many; place++) {
        rows.row[place] = (int) (code >> 4 * (o.many - 1 - place) & 15);
      }
    }

    private int indexOf(long code, int many) {
      for (int i = 0; i < many; i++) {
        if (codes[i] == code) {
          return i;
        }
      }
      return -1;
    }
  }

  /** Joins and meets of the lattice that was taken last. */
  private static final class Lattices {
    private final int[] joins = new int[MOST_ELEMENTS * MOST_ELEMENTS];
    private final int[] meets = new int[MOST_ELEMENTS * MOST_ELEMENTS];
    // The least element of each one's class, while a congruence grows.
    private final int[] kin = new int[MOST_ELEMENTS];
    // By joined element, those that are made like what they cover once it is.
    private final int[] forced = new int[MOST_ELEMENTS];

    static int joinOf(Order o, int one, int other) {
      int common = o.from(one) & o.from(other);
      for (int x = 0; x < o.many; x++) {
        if ((common >> x & 1) != 0 && (common & ~o.from(x)) == 0) {
          return x;
        }
      }
      return -1;
    }

    static int meetOf(Order o, int one, int other) {
      int common = o.upTo(one) & o.upTo(other);
      for (int x = 0; x < o.many; x++) {
        if ((common >> x & 1) != 0 && (common & ~o.upTo(x)) == 0) {
          return x;
        }
      }
      return -1;
    }

    private static int at(int one, int other) {
      return one * MOST_ELEMENTS + other;
    }

    /** Takes an order; false if it is no lattice. */
    boolean take(Order o) {
      for (int x = 0; x < o.many; x++) {
        for (int y = 0; y < o.many; y++) {
          joins[at(x, y)] = joinOf(o, x, y);
          meets[at(x, y)] = meetOf(o, x, y);
          if (joins[at(x, y)] < 0 || meets[at(x, y)] < 0) {
            return false;
          }
        }
      }
      return o.many > 0;
    }

    boolean isDistributive(Order o, boolean isModularEnough) {
      for (int a = 0; a < o.many; a++) {
        for (int b = 0; b < o.many; b++) {
          for (int c = 0; c < o.many; c++) {
            boolean isAsked = !isModularEnough || o.isAtMost(c, a);
            int whole = meets[at(a, joins[at(b, c)])];
            int parts = joins[at(meets[at(a, b)], meets[at(a, c)])];
            if (isAsked && whole != parts) {
              return false;
            }
          }
        }
      }
      return true;
    }

    boolean isGeometric(Order o) {
      if (!o.isGraded()) {
        return false;
      }
      for (int a = 0; a < o.many; a++) {
        for (int b = 0; b < o.many; b++) {
          int ends = o.height[meets[at(a, b)]] + o.height[joins[at(a, b)]];
          if (ends > o.height[a] + o.height[b]) {
            return false;
          }
        }
        if (joinOfAtoms(o, a) != a) {
          return false;
        }
      }
      return true;
    }

    /** The join of all at most an element that cover the least one: no other one is higher. */
    private int joinOfAtoms(Order o, int a) {
      int found = o.line[0];
      for (int x = 0; x < o.many; x++) {
        if (o.height[x] == 1 && o.isAtMost(x, a)) {
          found = joins[at(found, x)];
        }
      }
      return found;
    }

    static int joinedOnes(Order o) {
      int found = 0;
      for (int x = 0; x < o.many; x++) {
        if (Integer.bitCount(o.coveredBy(x, o.all())) == 1) {
          found |= 1 << x;
        }
      }
      return found;
    }

    /** A congruence is told by the joined elements that it makes like the ones they cover. */
    int countCongruences(Order o) {
      int ones = joinedOnes(o);
      for (int x = 0; x < o.many; x++) {
        if ((ones >> x & 1) != 0) {
          spread(o, x, onlyCovered(o, x));
          forced[x] = madeLike(o, ones);
        }
      }
      int found = 0;
      for (int set = 0; set <= ones; set++) {
        if ((set & ~ones) == 0 && isForcedIn(o, set)) {
          found++;
        }
      }
      return found;
    }

    private static int onlyCovered(Order o, int x) {
      int covered = o.coveredBy(x, o.all());
      for (int y = 0; y < o.many; y++) {
        if ((covered >> y & 1) != 0) {
          return y;
        }
      }
      return x;
    }

    private int madeLike(Order o, int ones) {
      int found = 0;
      for (int x = 0; x < o.many; x++) {
        if ((ones >> x & 1) != 0 && kin[x] == kin[onlyCovered(o, x)]) {
          found |= 1 << x;
        }
      }
      return found;
    }

    private boolean isForcedIn(Order o, int set) {
      for (int x = 0; x < o.many; x++) {
        if ((set >> x & 1) != 0 && (forced[x] & ~set) != 0) {
          return false;
        }
      }
      return true;
    }

    /** Fills kin with the least congruence that makes two elements alike. */
    private void spread(Order o, int one, int other) {
      for (int x = 0; x < o.many; x++) {
        kin[x] = x;
      }
      boolean isGrowing = merge(o, one, other);
      for (int round = 0; round < o.many && isGrowing; round++) {
        isGrowing = false;
        for (int x = 0; x < o.many; x++) {
          for (int c = 0; c < o.many; c++) {
            int like = kin[x];
            isGrowing |= merge(o, joins[at(x, c)], joins[at(like, c)]);
            isGrowing |= merge(o, meets[at(x, c)], meets[at(like, c)]);
          }
        }
      }
    }

    private boolean merge(Order o, int one, int other) {
      int kept = Math.min(kin[one], kin[other]);
      int gone = Math.max(kin[one], kin[other]);
      for (int x = 0; x < o.many && kept != gone; x++) {
        if (kin[x] == gone) {
          kin[x] = kept;
        }
      }
      return kept != gone;
    }
  }

  /** Ideals and cuts, and schedules, which go from ideal to ideal. */
  private static final class Ideals {
    private final int[] steps = new int[ALL_SETS];

    static int findIdeals(Order o, int[] found) {
      int many = 0;
      for (int set = 0; set <= o.all() && many <= found.length; set++) {
        if (o.isIdeal(set)) {
          many = Maker.note(found, many, set);
        }
      }
      return many;
    }

    static int findCuts(Order o, int[] found) {
      int many = 0;
      for (int set = 0; set <= o.all() && many <= found.length; set++) {
        if (isCut(o, set)) {
          many = Maker.note(found, many, set);
        }
      }
      return many;
    }

    private static boolean isCut(Order o, int set) {
      int highs = o.all();
      int lows = o.all();
      for (int x = 0; x < o.many; x++) {
        if ((set >> x & 1) != 0) {
          highs &= o.from(x);
        }
      }
      for (int x = 0; x < o.many; x++) {
        if ((highs >> x & 1) != 0) {
          lows &= o.upTo(x);
        }
      }
      return lows == set;
    }

    static int countIdeals(Order o, boolean isSum) {
      int found = 0;
      for (int set = 0; set <= o.all(); set++) {
        if (o.isIdeal(set)) {
          found += isSum ? Integer.bitCount(set) : 1;
        }
      }
      return found;
    }

    static int turned(Order o, int ideal) {
      int found = 0;
      for (int x = 0; x < o.many; x++) {
        if (o.isFree(x, ideal)) {
          found |= o.upTo(x);
        }
      }
      return found;
    }

    /** Turns come back to where they began, since each ideal is the turn of one only. */
    static int orbitOf(Order o, int ideal, boolean isSum) {
      int found = 0;
      int at = ideal;
      for (int i = 0; i < ALL_SETS; i++) {
        found += isSum ? Integer.bitCount(at) : 1;
        at = turned(o, at);
        if (at == ideal) {
          return found;
        }
      }
      return found;
    }

    int fewestSteps(Order o, int machines) {
      for (int set = 0; set <= o.all(); set++) {
        steps[set] = -1;
      }
      steps[0] = 0;
      for (int set = 0; set < o.all(); set++) {
        if (steps[set] >= 0) {
          stepFrom(o, set, machines);
        }
      }
      return steps[o.all()];
    }

    /** It never helps to leave a machine idle that could do something. */
    private void stepFrom(Order o, int done, int machines) {
      int ready = 0;
      for (int x = 0; x < o.many; x++) {
        if (o.isFree(x, done)) {
          ready |= 1 << x;
        }
      }
      int taken = Math.min(machines, Integer.bitCount(ready));
      choose(steps, ready, done, 0, taken, steps[done] + 1);
    }

    /** Notes what is done with so many more of those that are ready, from an element on. */
    private static void choose(int[] steps, int ready, int done, int from, int more, int many) {
      if (more <= 0) {
        steps[done] = steps[done] < 0 ? many : Math.min(steps[done], many);
        return;
      }
      for (int x = from; x < MOST_ELEMENTS && Integer.bitCount(ready >> x) >= more; x++) {
        if ((ready >> x & 1) != 0) {
          choose(steps, ready, done | 1 << x, x + 1, more - 1, many);
        }
      }
    }
  }

  /** The map that is typed, and the search for one without a fixed point. */
  private static final class Maps {
    private final int[] values = new int[MOST_ELEMENTS];
    private final int[] tries = new int[SMALL_ORDER];
    int typed = 0;

    void append(int value) {
      if (typed < values.length) {
        values[typed] = value;
        typed++;
      }
    }

    boolean isMap(Order one, Order two) {
      if (typed != one.many) {
        return false;
      }
      for (int x = 0; x < typed; x++) {
        if (values[x] >= two.many) {
          return false;
        }
      }
      return true;
    }

    boolean isKeeping(Order one, Order two) {
      for (int x = 0; x < one.many; x++) {
        for (int y = 0; y < one.many; y++) {
          if (one.isBelow(x, y) && !two.isAtMost(values[x], values[y])) {
            return false;
          }
        }
      }
      return true;
    }

    /** A value of the upper adjoint, or -1 if there is none, be it for another element alone. */
    int adjointAt(Order one, Order two, int element) {
      for (int y = 0; y < two.many; y++) {
        if (greatestUnder(one, two, y) < 0) {
          return -1;
        }
      }
      return greatestUnder(one, two, element);
    }

    /** The greatest element with a value at most this one, or -1. */
    private int greatestUnder(Order one, Order two, int most) {
      int under = 0;
      for (int x = 0; x < one.many; x++) {
        if (two.isAtMost(values[x], most)) {
          under |= 1 << x;
        }
      }
      for (int x = 0; x < one.many; x++) {
        if ((under >> x & 1) != 0 && (under & ~one.upTo(x)) == 0) {
          return x;
        }
      }
      return -1;
    }

    /** After as many steps as there are elements the ring is reached; as many go all round it. */
    int leastOfRing(Order o, int element) {
      int at = element;
      for (int i = 0; i < o.many; i++) {
        at = values[at];
      }
      int found = at;
      for (int i = 0; i < o.many; i++) {
        at = values[at];
        found = Math.min(found, at);
      }
      return found;
    }

    boolean isMovable(Order o) {
      return canMoveAll(tries, o, 0);
    }

    /** Whether what is mapped so far goes on to a map that keeps the order and moves all. */
    private static boolean canMoveAll(int[] tries, Order o, int mapped) {
      if (mapped >= o.many || mapped >= tries.length) {
        return true;
      }
      for (int value = 0; value < o.many; value++) {
        if (value != mapped && isKeptBy(tries, o, mapped, value)) {
          tries[mapped] = value;
          if (canMoveAll(tries, o, mapped + 1)) {
            return true;
          }
        }
      }
      return false;
    }

    private static boolean isKeptBy(int[] tries, Order o, int x, int value) {
      for (int y = 0; y < x; y++) {
        if ((o.isBelow(y, x) && !o.isAtMost(tries[y], value))
            || (o.isBelow(x, y) && !o.isAtMost(value, tries[y]))) {
          return false;
        }
      }
      return true;
    }
  }

  /** A table of crosses, typed or explored, and the rules that are accepted while exploring. */
  private static final class Crosses {
    static final int MOST = 6;

    int things = 0;
    int marks = 1;
    boolean isExploring = false;
    int accepted = 0;
    int told = 0;
    final int[] premises = new int[1 << MOST];
    final int[] conclusions = new int[1 << MOST];
    private final int[] marksOf = new int[MOST];
    private final int[] ifs = new int[1 << MOST];
    private final int[] thens = new int[1 << MOST];

    void begin(int manyThings, int manyMarks, boolean isExplored) {
      things = manyThings;
      marks = manyMarks;
      isExploring = isExplored;
      accepted = 0;
      for (int thing = 0; thing < MOST; thing++) {
        marksOf[thing] = 0;
      }
    }

    boolean setCross(int thing, int mark, boolean is) {
      boolean was = (marksOf[thing] >> mark & 1) != 0;
      if (is != was) {
        marksOf[thing] ^= 1 << mark;
      }
      return was;
    }

    void addThing(int has) {
      if (things < MOST) {
        marksOf[things] = has;
        things++;
      }
    }

    int allMarks() {
      return (1 << marks) - 1;
    }

    /** All marks that all things with these marks have. */
    private int closed(int set) {
      int found = allMarks();
      for (int thing = 0; thing < things; thing++) {
        if ((set & ~marksOf[thing]) == 0) {
          found &= marksOf[thing];
        }
      }
      return found;
    }

    int thingsWith(int set) {
      int found = 0;
      for (int thing = 0; thing < things; thing++) {
        if ((set & ~marksOf[thing]) == 0) {
          found |= 1 << thing;
        }
      }
      return found;
    }

    int countConcepts() {
      int found = 0;
      for (int set = 0; set <= allMarks(); set++) {
        if (closed(set) == set) {
          found++;
        }
      }
      return found;
    }

    /** The marks of a concept, or -1. */
    int findConcept(int index) {
      int passed = 0;
      for (int set = 0; set <= allMarks(); set++) {
        if (closed(set) == set) {
          if (passed == index) {
            return set;
          }
          passed++;
        }
      }
      return -1;
    }

    /** Finds the implications anew: smaller premises come first, as later ones need them. */
    void tell() {
      told = 0;
      for (int size = 0; size <= marks; size++) {
        for (int set = 0; set <= allMarks(); set++) {
          boolean isNext = Integer.bitCount(set) == size && told < premises.length;
          if (isNext && closed(set) != set && isLeftClosed(set)) {
            premises[told] = set;
            conclusions[told] = closed(set);
            told++;
          }
        }
      }
    }

    /** Whether a set holds the conclusion of each premise told so far that is in it. */
    private boolean isLeftClosed(int set) {
      for (int i = 0; i < told; i++) {
        if ((premises[i] & ~set) == 0 && (conclusions[i] & ~set) != 0) {
          return false;
        }
      }
      return true;
    }

    boolean areRulesRight() {
      tell();
      for (int set = 0; set <= allMarks(); set++) {
        if (isLeftClosed(set) != (closed(set) == set)) {
          return false;
        }
      }
      return true;
    }

    /** The implication that is asked for, or -1. */
    int findQuestion() {
      if (!isExploring) {
        return -1;
      }
      tell();
      for (int i = 0; i < told; i++) {
        if (!isAccepted(premises[i])) {
          return i;
        }
      }
      return -1;
    }

    private boolean isAccepted(int premise) {
      for (int i = 0; i < accepted; i++) {
        if (ifs[i] == premise) {
          return true;
        }
      }
      return false;
    }

    void acceptRule(int asked) {
      if (accepted < ifs.length) {
        ifs[accepted] = premises[asked];
        thens[accepted] = conclusions[asked];
        accepted++;
      }
    }

    boolean areRulesHeld(int has) {
      for (int i = 0; i < accepted; i++) {
        if ((ifs[i] & ~has) == 0 && (thens[i] & ~has) != 0) {
          return false;
        }
      }
      return true;
    }
  }

  /** How many prefer one thing to another one, and the ranking with the fewest against it. */
  private static final class Rankings {
    static final int MOST = 6;

    // By what is ranked ahead already, the fewest who prefer otherwise of the rest.
    final int[] costs = new int[1 << MOST];
    private final int[] many = new int[MOST * MOST];

    int setMany(int one, int other, int now) {
      int had = many[one * MOST + other];
      many[one * MOST + other] = now;
      return had;
    }

    void fillCosts(int things) {
      int all = (1 << things) - 1;
      costs[all] = 0;
      for (int ahead = all - 1; ahead >= 0; ahead--) {
        int fewest = -1;
        for (int x = 0; x < things; x++) {
          if ((ahead >> x & 1) == 0) {
            int cost = costOf(things, ahead, x);
            fewest = fewest < 0 ? cost : Math.min(fewest, cost);
          }
        }
        costs[ahead] = fewest;
      }
    }

    private int costOf(int things, int ahead, int next) {
      int passed = ahead | 1 << next;
      int found = costs[passed];
      for (int x = 0; x < things; x++) {
        if ((passed >> x & 1) == 0) {
          found += many[x * MOST + next];
        }
      }
      return found;
    }

    /** Due before: fillCosts for as many things. */
    int thingAt(int things, int place) {
      int ahead = 0;
      int next = 0;
      for (int i = 0; i <= place; i++) {
        next = firstAt(things, ahead);
        ahead |= 1 << next;
      }
      return next;
    }

    private int firstAt(int things, int ahead) {
      for (int x = 0; x < things; x++) {
        if ((ahead >> x & 1) == 0 && costOf(things, ahead, x) == costs[ahead]) {
          return x;
        }
      }
      return 0;
    }
  }
}
