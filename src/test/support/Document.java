import java.io.IOException;
import java.io.UncheckedIOException;
import java.nio.file.Files;
import java.nio.file.Path;
import java.util.ArrayList;
import java.util.LinkedHashMap;
import java.util.List;
import java.util.Map;

/** The sentences of ../shared/DOC.md, so that a test names those that it is of and leaves none out. */
final class Document {
  private static final Path PLACE = Path.of("../shared/DOC.md");
  private static final List<String> PLAIN_HEADINGS = List.of("Adders, multipliers", "Areas, delays");
  private static final Map<String, List<String>> SENTENCES = read();
  private static final Map<String, List<String>> NAMED = new LinkedHashMap<>();

  private Document() {}

  /** Words of a section; a section of a promise is told as "Promise 1" and so on. */
  static String name(String section, String words) {
    boolean stands = false;
    for (String sentence : SENTENCES.getOrDefault(section, List.of())) {
      stands |= sentence.contains(words);
    }
    NAMED.computeIfAbsent(section, s -> new ArrayList<>()).add(words);
    String ofDocument = section + ", \"" + words + "\"";
    Check.isOf(ofDocument);
    Check.holds("stands in the document", stands);
    return ofDocument;
  }

  /** Each sentence of these sections has a test that named words of it. */
  static void allNamed(String... sections) {
    Check.isOf("the document");
    for (String section : sections) {
      Check.holds("there is a section " + section, SENTENCES.containsKey(section));
      List<String> named = NAMED.getOrDefault(section, List.of());
      for (String sentence : SENTENCES.getOrDefault(section, List.of())) {
        boolean hasTest = false;
        for (String words : named) {
          hasTest |= sentence.contains(words);
        }
        Check.holds(section + ", \"" + sentence + "\" has a test", hasTest);
      }
    }
  }

  private static Map<String, List<String>> read() {
    Map<String, List<String>> sentences = new LinkedHashMap<>();
    List<String> now = new ArrayList<>();
    for (String line : lines()) {
      boolean isPlainHeading = PLAIN_HEADINGS.contains(line);
      if (line.startsWith("#") || isPlainHeading) {
        now = new ArrayList<>();
        sentences.put(isPlainHeading ? line : heading(line), now);
      } else if (!line.isBlank()) {
        now.addAll(List.of(line.replaceFirst("^- ", "").split("(?<=\\.) (?=[A-Z])")));
      }
    }
    return sentences;
  }

  private static String heading(String line) {
    return line.replaceFirst("^#+ ", "").replaceFirst("^(Promise \\d+): .*", "$1");
  }

  private static List<String> lines() {
    try {
      return Files.readAllLines(PLACE);
    } catch (IOException e) {
      throw new UncheckedIOException(e);
    }
  }
}
