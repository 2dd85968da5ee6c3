/** All that can be asked of an object, as one text; what it asks last takes the object apart. */
final class Probe {
  // What an object answers behind its 512th call is free.
  static final int MOST_CALLS = 450;

  private final Zetaposet z;
  private final StringBuilder text = new StringBuilder();
  private int calls = 0;

  private Probe(Zetaposet z) {
    this.z = z;
  }

  static String of(Zetaposet z) {
    Probe probe = new Probe(z);
    probe.askOrders();
    probe.askTable();
    probe.askExploring();
    probe.askPreferences();
    probe.askMap();
    if (probe.calls > MOST_CALLS) {
      throw new AssertionError("too many calls: " + probe.calls);
    }
    return probe.text.toString();
  }

  /** Notes an answer, and tells it; -1 if an exception came. */
  private int note(String what, Edges.Ask ask) {
    calls++;
    Object answer;
    try {
      answer = ask.of(z);
    } catch (RuntimeException e) {
      answer = e.getClass().getSimpleName();
    }
    text.append(what).append(answer).append(' ');
    return answer instanceof Integer ? (Integer) answer : -1;
  }

  private void askOrders() {
    note("sound ", h -> h.isSound());
    int size = note("\norder ", h -> h.size(0));
    for (int order = 0; size > 0; order++) {
      int at = order;
      for (int x = 0; x < size; x++) {
        int element = x;
        note("", h -> h.above(at, element));
      }
      size = note("\norder ", h -> h.size(at + 1));
    }
  }

  private void askTable() {
    int many = note("\nconcepts ", h -> h.concepts());
    for (int i = 0; i <= many; i++) {
      int index = i;
      note("", h -> h.conceptAt(index, false));
      note("", h -> h.conceptAt(index, true));
    }
    many = note("\nimplications ", h -> h.implications());
    for (int i = 0; i <= many; i++) {
      int index = i;
      note("", h -> h.implicationAt(index, true));
      note("", h -> h.implicationAt(index, false));
    }
    note("\ncross ", h -> h.cross(0, 0, false));
  }

  /** Accepts to the end: the first answer tells how many rules there were. */
  private void askExploring() {
    text.append("\nexploring ");
    for (int rules = 0; rules >= 0;) {
      note("", h -> h.question(true));
      note(">", h -> h.question(false));
      rules = note("", h -> h.accept());
    }
    note("\nthings ", h -> h.table(0, 1));
  }

  private void askPreferences() {
    text.append("\nprefer ");
    for (int one = 0; one < 6; one++) {
      for (int other = 0; other < 6; other++) {
        int a = one;
        int b = other;
        if (a != b) {
          note("", h -> h.prefer(a, b, 0));
        }
      }
    }
  }

  /** The map is filled up with 0: then it is asked where it leads, and which values are less. */
  private void askMap() {
    note("\norders ", h -> h.clear());
    text.append("\nmap ");
    for (int typed = 0; typed >= 0;) {
      typed = note("", h -> h.type(0));
    }
    note("", h -> h.order(12));
    for (int x = 0; x < 12; x++) {
      int element = x;
      note("", h -> h.fixed(0, element));
    }
    for (int x = 1; x < 12; x++) {
      int high = x;
      note("", h -> h.relate(0, high - 1, high));
    }
    for (int x = 1; x < 12; x++) {
      int high = x;
      note("", h -> h.order(12));
      note("", h -> h.relate(1 + (high - 1) % 9, high - 1, high));
      note("", h -> h.keeps(1 + (high - 1) % 9, 0));
      if (high == 9) {
        makeRoom();
      }
    }
    note("typed ", h -> h.wipe());
  }

  private void makeRoom() {
    note("", h -> h.clear());
    note("", h -> h.order(12));
    for (int x = 1; x < 12; x++) {
      int high = x;
      note("", h -> h.relate(0, high - 1, high));
    }
  }
}
