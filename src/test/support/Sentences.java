import java.io.IOException;
import java.nio.file.Files;
import java.nio.file.Path;
import java.util.ArrayList;
import java.util.LinkedHashMap;
import java.util.List;
import java.util.Map;

/**
 * Tests that stand under the document's own sentences: each quotes the one that it tests, and what
 * of the document no test has quoted is told at the end.
 */
abstract class Sentences extends Checks {
  private static final Map<String, String> WHOLE = new LinkedHashMap<>();
  private static final Map<String, String> UNSAID = new LinkedHashMap<>();
  private static String section = "";

  /** From now on the sentences are of the section under this heading: "Terms", or "Promise 7". */
  static void section(String name) {
    section = name;
    if (!WHOLE.containsKey(name)) {
      where = name;
      fail("the document has no such section");
    }
  }

  /** What follows tests this sentence, or this part of one. */
  static void says(String quote) {
    where = section + ", \"" + quote + "\"";
    if (!WHOLE.getOrDefault(section, "").contains(quote)) {
      fail("the document does not say this");
    }
    UNSAID.computeIfPresent(section, (name, text) -> cut(text, quote));
  }

  private static String cut(String text, String quote) {
    int at = text.indexOf(quote);
    return at < 0 ? text : text.substring(0, at) + " | " + text.substring(at + quote.length());
  }

  /** What is left of a section must be nothing but the words that join the quotes. */
  static void tellUnsaid(String first) {
    for (Map.Entry<String, String> e : UNSAID.entrySet()) {
      String text = e.getValue().replaceAll("Throws `\\w+` if\\b", " ").replaceAll("\\bor\\b", " ")
          .replaceAll("[|.,;:]", " ").trim();
      if (e.getKey().startsWith(first) && !text.isEmpty()) {
        where = e.getKey();
        fail("no test stands under: " + text.replaceAll("\\s+", " "));
      }
    }
  }

  static void readDocument() throws IOException {
    List<String> lines = Files.readAllLines(Path.of("../shared/DOC.md"));
    List<String> terms = new ArrayList<>();
    boolean isTerms = false;
    String heading = "";
    for (String line : lines) {
      if (line.startsWith("All numbers are whole")) {
        isTerms = true;
      } else if (line.startsWith("Ahead of the calls")) {
        isTerms = false;
      } else if (line.startsWith("## ")) {
        heading = line.substring(3).replaceAll(":.*", "");
      }
      if (isTerms && !line.startsWith("```")) {
        terms.add(line);
      } else if (!heading.isEmpty() && !line.startsWith("## ")) {
        WHOLE.merge(heading, line + "\n", String::concat);
      }
    }
    WHOLE.put("Terms", String.join("\n", terms));
    for (Map.Entry<String, String> e : WHOLE.entrySet()) {
      UNSAID.put(e.getKey(), oneLine(e.getValue().replaceAll("(?m)^`[^`]*`: ", "")
          .replaceAll("(?m)^- `\\w+`: .*$", "").replaceAll("(?m)^\\d (?=[A-Z]{4})", "")));
      e.setValue(oneLine(e.getValue()));
    }
  }

  private static String oneLine(String text) {
    return text.replaceAll("\\s+", " ").trim();
  }
}
