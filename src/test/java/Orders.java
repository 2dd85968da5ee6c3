/** Orders that many tests need. */
final class Orders {
  /** Adds an order by its pairs, written as digits: "01 12" puts 0 below 1 and 1 below 2. */
  static int of(Zetaposet z, int elements, String pairs) {
    int order = z.order(elements);
    for (String pair : pairs.trim().split(" +")) {
      if (pair.length() == 2) {
        z.relate(order, Character.digit(pair.charAt(0), 36), Character.digit(pair.charAt(1), 36));
      }
    }
    return order;
  }

  static int chain(Zetaposet z, int elements) {
    int order = z.order(elements);
    for (int x = 1; x < elements; x++) {
      z.relate(order, x - 1, x);
    }
    return order;
  }

  /** 0 below 1 below 2, 3 beside, 4 above all but, with 0 least: the lattice N5. */
  static int pentagon(Zetaposet z) {
    return of(z, 5, "01 12 24 03 34");
  }

  /** The lattice M3: three elements between a least and a greatest one. */
  static int diamond(Zetaposet z) {
    return of(z, 5, "01 02 03 14 24 34");
  }

  static void fill(Zetaposet z) {
    boolean isFull = false;
    for (int i = 0; i < 11 && !isFull; i++) {
      try {
        z.order(1);
      } catch (IllegalStateException e) {
        isFull = true;
      }
    }
  }

  static int set(int... elements) {
    int found = 0;
    for (int x : elements) {
      found |= 1 << x;
    }
    return found;
  }
}
