import java.io.IOException;
import java.lang.reflect.Constructor;
import java.lang.reflect.Field;
import java.lang.reflect.Method;
import java.lang.reflect.Modifier;
import java.nio.file.Files;
import java.nio.file.Path;
import java.util.ArrayList;
import java.util.List;
import java.util.Set;
import java.util.TreeSet;

/** The face is the document's, and the source keeps to what the language leaves. */
public final class FaceTest {
  private static final Path DOCUMENT = Path.of("../shared/DOC.md");
  private static final Path SOURCE = Path.of("src/main/java/Zetaposet.java");
  private static final Check check = new Check("FaceTest");

  public static void main(String[] args) throws Exception {
    face();
    members();
    names();
    sizes();
    source();
    check.end();
  }

  private static void face() throws IOException {
    Set<String> due = new TreeSet<>();
    for (String line : Files.readAllLines(DOCUMENT)) {
      if (line.startsWith("    public ") && line.endsWith(";")) {
        due.add(plain(line));
      }
    }
    Set<String> got = new TreeSet<>();
    for (Constructor<?> made : Zetaposet.class.getDeclaredConstructors()) {
      check.isTrue("the constructor is public", Modifier.isPublic(made.getModifiers()));
      got.add(signature("Zetaposet", made.getParameterTypes(), made.getExceptionTypes()));
    }
    for (Method method : Zetaposet.class.getDeclaredMethods()) {
      if (Modifier.isPublic(method.getModifiers())) {
        check.isFalse(method + " is of an object", Modifier.isStatic(method.getModifiers()));
        String name = method.getReturnType().getSimpleName() + " " + method.getName();
        got.add(signature(name, method.getParameterTypes(), method.getExceptionTypes()));
      }
    }
    check.is("how many", due.size(), 73);
    check.is("the face", got, due);
  }

  /** A line of the document without the names of its parameters. */
  private static String plain(String line) {
    return line.trim().replace("public ", "").replace(";", "")
        .replaceAll("(int|long|boolean|char) \\w+(?=[,)])", "$1");
  }

  private static String signature(String name, Class<?>[] parameters, Class<?>[] exceptions) {
    String found = name + "(" + names(parameters) + ")";
    return exceptions.length == 0 ? found : found + " throws " + names(exceptions);
  }

  private static String names(Class<?>[] classes) {
    List<String> found = new ArrayList<>();
    for (Class<?> one : classes) {
      found.add(one.getSimpleName());
    }
    return String.join(", ", found);
  }

  private static void members() {
    int whole = Zetaposet.class.getModifiers();
    check.isTrue("public and final", Modifier.isPublic(whole) && Modifier.isFinal(whole));
    for (Field field : Zetaposet.class.getDeclaredFields()) {
      check.isTrue(field + " is private", Modifier.isPrivate(field.getModifiers()));
    }
    for (Method method : Zetaposet.class.getDeclaredMethods()) {
      int is = method.getModifiers();
      check.isTrue(method + " is public or private",
          Modifier.isPublic(is) || Modifier.isPrivate(is));
    }
    for (Class<?> inner : Zetaposet.class.getDeclaredClasses()) {
      int is = inner.getModifiers();
      check.isTrue(inner + " is private and static",
          Modifier.isPrivate(is) && Modifier.isStatic(is));
    }
    for (Class<?> one : all()) {
      for (Field field : one.getDeclaredFields()) {
        boolean isKept = !Modifier.isStatic(field.getModifiers());
        check.isTrue(field + ", if static, is final",
            isKept || Modifier.isFinal(field.getModifiers()));
      }
    }
  }

  private static List<Class<?>> all() {
    List<Class<?>> found = new ArrayList<>(List.of(Zetaposet.class.getDeclaredClasses()));
    found.add(Zetaposet.class);
    return found;
  }

  private static void names() {
    Set<String> face = new TreeSet<>();
    for (Method method : Zetaposet.class.getDeclaredMethods()) {
      if (Modifier.isPublic(method.getModifiers())) {
        check.isTrue(method + " is the only one of its name", face.add(method.getName()));
      }
    }
    for (Class<?> one : all()) {
      for (Method method : one.getDeclaredMethods()) {
        boolean isOfFace = one == Zetaposet.class && Modifier.isPublic(method.getModifiers());
        check.isTrue(method + " has a name of its own",
            isOfFace || !face.contains(method.getName()));
      }
    }
  }

  private static void sizes() {
    check.isTrue("at most twelve classes", all().size() <= 12);
    for (Class<?> one : all()) {
      int fields = 0;
      for (Field field : one.getDeclaredFields()) {
        fields += Modifier.isStatic(field.getModifiers()) ? 0 : 1;
      }
      check.isTrue(one + " has at most twenty fields", fields <= 20);
      for (Method method : one.getDeclaredMethods()) {
        check.isTrue(method + " takes at most seven", method.getParameterCount() <= 7);
      }
    }
  }

  private static void source() throws IOException {
    String[] never = {
      "->", "::", "catch", "finally", "try ", "synchronized", "assert", "instanceof", "protected",
      "String", "Object", "null", "while", "package ", "System", "Math.random", "volatile"
    };
    int start = 0;
    int at = 0;
    for (String line : Files.readAllLines(SOURCE)) {
      at++;
      String where = "line " + at + ": " + line.trim();
      String code = line.replaceAll("\"[^\"]*\"", "").replaceAll("//.*|^ *(/\\*)?\\*.*", "");
      for (String word : never) {
        check.isFalse(where + " without " + word, code.contains(word));
      }
      boolean isImport = code.startsWith("import ");
      check.isTrue(where + ", the only import",
          !isImport || code.equals("import java.util.NoSuchElementException;"));
      // What calls make would add up over a run: objects and arrays are made with the hall alone.
      boolean isField = code.matches(" +(private )?(static )?final [\\w\\[\\]]+ \\w+ = new .*;");
      boolean isHall = code.trim().equals("hall[i] = new Order();");
      check.isTrue(where + " makes nothing",
          !code.contains("new ") || code.contains("throw new ") || isField || isHall);
      check.isTrue(where + " in plain signs", line.chars().allMatch(c -> c >= 32 && c < 127));
      check.isTrue(where + " is no longer than 100", line.length() <= 100);
      if (line.matches("  (  )?\\S.*\\{")) {
        start = at;
      }
      check.isTrue(where + ", methods are short",
          !line.matches("  (  )?\\}") || isOfClass(line) || at - start <= 60);
    }
  }

  /** The end of a class inside stands where the end of a method of the hall does. */
  private static boolean isOfClass(String line) {
    return line.equals("  }");
  }
}
