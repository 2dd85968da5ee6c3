import java.lang.reflect.InvocationTargetException;
import java.lang.reflect.Method;
import java.util.Arrays;
import java.util.HashMap;
import java.util.Map;

/** The class and the oracle side by side: each call is put to both, and has to be answered alike. */
final class Both {
  private static final Map<String, Method> METHODS = new HashMap<>();
  static final Map<String, Integer> ANSWERED = new HashMap<>();

  final Oracle oracle = new Oracle();
  private final Zetaposet z = new Zetaposet();
  private final Check check;
  private final String run;

  Both(Check check, String run) {
    this.check = check;
    this.run = run;
  }

  void ask(String name, Object... arguments) {
    Object due = call(oracle, name, arguments);
    Object got = call(z, name, arguments);
    if (!(due instanceof Oracle.Skip)) {
      check.is(run + ": " + name + Arrays.toString(arguments), got, due);
      ANSWERED.merge(name, due instanceof Class ? 0 : 1, Integer::sum);
    }
  }

  private static Object call(Object target, String name, Object[] arguments) {
    try {
      return method(target, name).invoke(target, arguments);
    } catch (InvocationTargetException e) {
      return e.getCause() instanceof Oracle.Skip ? e.getCause() : e.getCause().getClass();
    } catch (IllegalAccessException e) {
      throw new AssertionError(e);
    }
  }

  private static Method method(Object target, String name) {
    String key = target.getClass().getName() + "." + name;
    return METHODS.computeIfAbsent(key, k -> {
      for (Method method : target.getClass().getDeclaredMethods()) {
        if (method.getName().equals(name)) {
          return method;
        }
      }
      throw new AssertionError("no such method: " + name);
    });
  }
}
