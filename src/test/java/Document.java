import java.io.IOException;
import java.io.UncheckedIOException;
import java.nio.file.Files;
import java.nio.file.Path;
import java.util.ArrayList;
import java.util.List;

/** The document's sentences, promise by promise; number 0 stands for what comes before these. */
final class Document {
  private static final Path FILE = Path.of("../shared/DOC.md");

  private final List<List<String>> promises = new ArrayList<>();

  Document() {
    List<String> lines = new ArrayList<>();
    promises.add(lines);
    StringBuilder open = new StringBuilder();
    for (String line : read()) {
      boolean isPart = line.startsWith("- ");
      if (line.isEmpty() || line.startsWith("#") || isPart) {
        close(lines, open);
      }
      if (line.startsWith("## Promise ")) {
        lines = new ArrayList<>();
        promises.add(lines);
      } else if (line.equals("## Not promised")) {
        lines = promises.get(0);
      } else if (!line.startsWith("#")) {
        open.append(open.length() == 0 || line.isEmpty() ? "" : " ").append(line);
      }
    }
    close(lines, open);
  }

  private static List<String> read() {
    try {
      return Files.readAllLines(FILE);
    } catch (IOException e) {
      throw new UncheckedIOException(e);
    }
  }

  private static void close(List<String> lines, StringBuilder open) {
    if (open.length() > 0) {
      lines.add(open.toString());
      open.setLength(0);
    }
  }

  int promises() {
    return promises.size() - 1;
  }

  /** Whether a promise has a sentence: a whole line, or what stands in one behind the call. */
  boolean says(int promise, String sentence) {
    for (String line : promises.get(promise)) {
      boolean isSaid = promise == 0 ? line.contains(sentence)
          : line.equals(sentence) || line.endsWith("`: " + sentence);
      if (isSaid) {
        return true;
      }
    }
    return false;
  }

  /** The sentences of a promise that name an edge. */
  List<String> edges(int promise) {
    List<String> found = new ArrayList<>();
    for (String line : promises.get(promise)) {
      boolean isRange = line.startsWith("- ") && line.matches(".*(\\d|or the same|no .*).*");
      boolean isSpecial = line.startsWith("Returns ")
          && line.matches(".*(;|not in it|which is|counted|by number).*");
      if (line.startsWith("Throws ") || isRange || isSpecial) {
        found.add(line);
      }
    }
    return found;
  }

  /** The sentences of the section Terms, but for the headings in it. */
  List<String> terms() {
    List<String> found = new ArrayList<>();
    boolean isInTerms = false;
    for (String line : promises.get(0)) {
      isInTerms |= line.startsWith("What is told by chains");
      isInTerms &= !line.startsWith("How the state is held");
      for (String sentence : isInTerms ? line.split("(?<=[^.]\\.) ") : new String[0]) {
        if (!sentence.matches("\\w+(, \\w+)?\\.")) {
          found.add(sentence);
        }
      }
    }
    return found;
  }
}
