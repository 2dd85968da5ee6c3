import java.io.ByteArrayOutputStream;
import java.io.File;
import java.io.IOException;
import java.io.PrintStream;
import java.lang.reflect.Method;
import java.lang.reflect.Modifier;
import java.net.URL;
import java.net.URLClassLoader;
import java.nio.charset.StandardCharsets;
import java.nio.file.Files;
import java.nio.file.Path;
import java.util.ArrayList;
import java.util.List;
import javax.tools.ToolProvider;

/** README.md tells the truth: its program answers as its comments say, and no call is left out. */
public final class ReadmeTest {
  private static final Path README = Path.of("README.md");
  private static final Check check = new Check("ReadmeTest");

  public static void main(String[] args) throws Exception {
    List<String> lines = Files.readAllLines(README);
    program(lines);
    calls(lines);
    tests(lines);
    check.end();
  }

  private static void program(List<String> lines) throws Exception {
    List<String> code = lines.subList(
        lines.indexOf("```java") + 1, lines.lastIndexOf("```"));
    List<String> due = new ArrayList<>();
    List<String> shown = new ArrayList<>();
    for (String line : code) {
      if (line.trim().startsWith("show(") && line.contains("; ")) {
        shown.add(line.trim());
        due.add(line.replaceAll(".*// ", "").replaceAll("[ ,:].*", ""));
      }
    }
    // A line without a comment throws.
    check.is("how many answers", due.size(), 26);
    String[] got = run(code).split("\\R");
    check.is("how many lines", got.length, due.size());
    for (int i = 0; i < Math.min(got.length, due.size()); i++) {
      check.is(shown.get(i), got[i], due.get(i));
    }
  }

  private static String run(List<String> code) throws Exception {
    Path made = Files.createTempDirectory("readme");
    Path source = made.resolve("Example.java");
    Files.write(source, code);
    String path = System.getProperty("java.class.path");
    int failed = ToolProvider.getSystemJavaCompiler().run(
        null, null, null, "-Xlint:all", "-Werror", "-cp", path, "-d", made.toString(),
        source.toString());
    check.is("the program compiles", failed, 0);
    PrintStream before = System.out;
    ByteArrayOutputStream printed = new ByteArrayOutputStream();
    try (URLClassLoader loader = new URLClassLoader(new URL[] {made.toUri().toURL()})) {
      System.setOut(new PrintStream(printed, true, StandardCharsets.ISO_8859_1));
      Method main = loader.loadClass("Example").getMethod("main", String[].class);
      main.invoke(null, (Object) new String[0]);
    } finally {
      System.setOut(before);
      remove(made);
    }
    return printed.toString(StandardCharsets.ISO_8859_1);
  }

  private static void remove(Path made) throws IOException {
    for (File file : made.toFile().listFiles()) {
      Files.delete(file.toPath());
    }
    Files.delete(made);
  }

  private static void calls(List<String> lines) {
    String list = "";
    for (String line : lines) {
      list += line.startsWith("| ") ? line.replaceAll("^\\|[^|]*", "") : "";
    }
    for (Method method : Zetaposet.class.getDeclaredMethods()) {
      if (Modifier.isPublic(method.getModifiers())) {
        String name = "`" + method.getName() + "`";
        int at = list.indexOf(name);
        check.isTrue(name + " is listed", at >= 0);
        check.isTrue(name + " is listed once", at == list.lastIndexOf(name));
      }
    }
    check.is("how many calls", list.split("`").length / 2, 72);
  }

  private static void tests(List<String> lines) {
    String text = String.join("\n", lines);
    for (File file : Path.of("src/test/java").toFile().listFiles()) {
      String name = file.getName().replace(".java", "");
      if (name.endsWith("Test")) {
        boolean isEdges = name.endsWith("EdgesTest");
        check.isTrue(name + " is told of",
            text.contains(isEdges ? "EdgesTest" : "`" + name + "`"));
      }
    }
    for (String path : new String[] {".ci/run", "src/main/java/Zetaposet.java", "../shared/DOC.md",
        "../shared/LANGUAGE.md", "../shared/tests", "src/test/java/RowsTest.java"}) {
      check.isTrue(path + " is told of", text.contains(path));
      check.isTrue(path + " is there", Files.exists(Path.of(path)));
    }
  }
}
