import java.util.NoSuchElementException;

/** Counts what is checked; a test ends with exit code 1 if anything was wrong. */
final class Check {
  static final Class<IllegalArgumentException> ARGUMENT = IllegalArgumentException.class;
  static final Class<IllegalStateException> STATE = IllegalStateException.class;
  static final Class<IndexOutOfBoundsException> INDEX = IndexOutOfBoundsException.class;
  static final Class<NoSuchElementException> NONE = NoSuchElementException.class;
  static final Class<UnsupportedOperationException> UNSUPPORTED =
      UnsupportedOperationException.class;

  interface Call {
    Object run();
  }

  private final String test;
  private int made = 0;
  private int wrong = 0;

  Check(String test) {
    this.test = test;
  }

  void is(String what, Object got, Object due) {
    made++;
    if (!due.equals(got)) {
      wrong++;
      System.out.println(test + ": " + what + " answered " + got + ", due is " + due);
    }
  }

  void isTrue(String what, boolean got) {
    is(what, got, true);
  }

  void isFalse(String what, boolean got) {
    is(what, got, false);
  }

  void fails(String what, Class<? extends RuntimeException> due, Call call) {
    made++;
    Object got;
    try {
      got = call.run();
    } catch (RuntimeException e) {
      got = e.getClass();
    }
    if (got != due) {
      wrong++;
      System.out.println(test + ": " + what + " gave " + got + ", due is " + due);
    }
  }

  void end() {
    System.out.println(test + ": " + made + " checks, " + wrong + " wrong");
    if (wrong != 0 || made == 0) {
      System.exit(1);
    }
  }
}
