import java.io.IOException;
import java.io.UncheckedIOException;
import java.nio.file.Files;
import java.nio.file.Path;
import java.util.ArrayList;
import java.util.LinkedHashMap;
import java.util.List;
import java.util.Map;

/** The sentences of ../shared/DOC.md, so that a test names those that it is of and leaves none out. */
final class Document {
  private static final Path PLACE = Path.of("../shared/DOC.md");
  private static final List<String> PLAIN_HEADINGS = List.of("Adders, multipliers", "Areas, delays");
  /** Which test names each sentence of which sections. */
  private static final Map<String, List<String>> SECTIONS_OF = Map.of(
      "UseTest", List.of("What it is", "The constants"),
      "FaceTest", List.of("The public face", "The groups"),
      "RefusalTest", List.of("Exceptions"),
      "NetEdgesTest", List.of("Nets", "Promise 1", "Promise 2", "Promise 3", "Promise 4", "Promise 7",
          "Promise 8", "Promise 9"),
      "MadeEdgesTest", List.of("Adders, multipliers", "Promise 5", "Promise 6"),
      "AnswerEdgesTest", List.of("Areas, delays", "Changes", "Promise 10", "Promise 11", "Promise 12",
          "Promise 13", "Promise 14", "Promise 15", "Promise 16", "Promise 17"),
      "FaultEdgesTest", List.of("Faults", "Digits", "Promise 18", "Promise 19", "Promise 20", "Promise 21"));
  /** Two headings with nothing of their own, and what is free. */
  private static final List<String> WITHOUT_TESTS = List.of("GateLedger", "Terms", "Not promised");
  private static final Map<String, List<String>> SENTENCES = read();
  private static final Map<String, List<String>> NAMED = new LinkedHashMap<>();

  private Document() {}

  /** Words of a section; a section of a promise is told as "Promise 1" and so on. */
  static String name(String section, String words) {
    boolean stands = false;
    for (String sentence : SENTENCES.getOrDefault(section, List.of())) {
      stands |= sentence.contains(words);
    }
    NAMED.computeIfAbsent(section, s -> new ArrayList<>()).add(words);
    String ofDocument = section + ", \"" + words + "\"";
    Check.isOf(ofDocument);
    Check.holds("stands in the document", stands);
    return ofDocument;
  }

  static List<String> sentences(String section) {
    return SENTENCES.getOrDefault(section, List.of());
  }

  static void everySectionHasATest() {
    Check.isOf("the document");
    for (String section : SENTENCES.keySet()) {
      boolean hasTest = WITHOUT_TESTS.contains(section);
      for (List<String> sections : SECTIONS_OF.values()) {
        hasTest |= sections.contains(section);
      }
      Check.holds("the section " + section + " has a test", hasTest);
    }
    for (String test : SECTIONS_OF.keySet()) {
      Check.holds(test + " stands", Files.exists(Path.of("src/test/java", test + ".java")));
    }
  }

  /** Each sentence of this test's sections has words that were named. */
  static void allNamed(String test) {
    Check.isOf("the document");
    for (String section : SECTIONS_OF.getOrDefault(test, List.of())) {
      Check.holds("there is a section " + section, SENTENCES.containsKey(section));
      List<String> named = NAMED.getOrDefault(section, List.of());
      for (String sentence : SENTENCES.getOrDefault(section, List.of())) {
        boolean hasTest = false;
        for (String words : named) {
          hasTest |= sentence.contains(words);
        }
        Check.holds(section + ", \"" + sentence + "\" has a test", hasTest);
      }
    }
  }

  private static Map<String, List<String>> read() {
    Map<String, List<String>> sentences = new LinkedHashMap<>();
    List<String> now = new ArrayList<>();
    for (String line : lines()) {
      String heading = heading(line);
      if (!heading.isEmpty() && !sentences.containsKey(heading)) {
        now = new ArrayList<>();
        sentences.put(heading, now);
      }
      if (!line.isBlank() && !line.startsWith("#") && !PLAIN_HEADINGS.contains(line)) {
        now.addAll(List.of(line.replaceFirst("^- ", "").split("(?<=\\.) (?=[A-Z])")));
      }
    }
    return sentences;
  }

  /** The section that begins with this line, or an empty text. */
  private static String heading(String line) {
    if (PLAIN_HEADINGS.contains(line)) {
      return line;
    }
    if (line.startsWith("The constants: ")) {
      return "The constants";
    }
    if (line.startsWith("Ahead of the calls ")) {
      return "The groups";
    }
    return line.startsWith("#") ? line.replaceFirst("^#+ ", "").replaceFirst("^(Promise \\d+): .*", "$1") : "";
  }

  private static List<String> lines() {
    try {
      return Files.readAllLines(PLACE);
    } catch (IOException e) {
      throw new UncheckedIOException(e);
    }
  }
}
