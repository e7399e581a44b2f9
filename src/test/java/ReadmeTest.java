import java.lang.reflect.Method;
import java.lang.reflect.Modifier;
import java.nio.charset.StandardCharsets;
import java.nio.file.Files;
import java.nio.file.Path;
import java.nio.file.StandardCopyOption;
import java.util.ArrayList;
import java.util.List;
import java.util.regex.Matcher;
import java.util.regex.Pattern;
import java.util.stream.Stream;

/** README.md: its example is run and answers what stands there, and its list of tests is whole. */
public final class ReadmeTest {
  private static final Path PROGRAM = Path.of("src/main/java/GateLedger.java");
  private static final Path TESTS = Path.of("src/test/java");
  private static final Pattern TOLD = Pattern.compile(" tell\\(.*\\); +// (-?\\d+)\n");

  public static void main(String[] args) throws Exception {
    String readme = Files.readString(Path.of("README.md"));
    String example = block(readme, "java");
    exampleAnswersAsItSays(block(readme, "sh"), example);
    exampleHasTheWholeFace(example);
    commandsNameFilesThatStand(readme);
    everyTestIsNamed(readme);
    Check.end("ReadmeTest");
  }

  /** What stands between the first line that begins such a block and its last line. */
  private static String block(String readme, String language) {
    Matcher block = Pattern.compile("(?s)\n```" + language + "\n(.*?\n)```\n").matcher(readme);
    boolean stands = block.find();
    Check.holds("there is a block in " + language, stands);
    return stands ? block.group(1) : "";
  }

  /** The commands are run as they stand, where the class and the example are beside each other. */
  private static void exampleAnswersAsItSays(String commands, String example) throws Exception {
    List<String> due = new ArrayList<>();
    Matcher told = TOLD.matcher(example);
    while (told.find()) {
      due.add(told.group(1));
    }
    Check.holds("the example tells answers", due.size() > 20);
    Path place = Files.createDirectories(Path.of("build/readme"));
    Files.copy(PROGRAM, place.resolve("GateLedger.java"), StandardCopyOption.REPLACE_EXISTING);
    Files.writeString(place.resolve("Example.java"), example);
    Process shell = new ProcessBuilder("sh", "-e", "-c", commands)
        .directory(place.toFile()).redirectError(ProcessBuilder.Redirect.INHERIT).start();
    String output = new String(shell.getInputStream().readAllBytes(), StandardCharsets.UTF_8);
    Check.same("the commands' exit code", String.valueOf(shell.waitFor()), "0");
    Check.same("the example", output.strip().replaceAll("\\R", " "), String.join(" ", due));
  }

  private static void exampleHasTheWholeFace(String example) {
    for (Method method : GateLedger.class.getDeclaredMethods()) {
      if (Modifier.isPublic(method.getModifiers())) {
        Check.holds("the example calls " + method.getName(),
            example.contains("ledger." + method.getName() + "("));
      }
    }
  }

  private static void commandsNameFilesThatStand(String readme) {
    Matcher file = Pattern.compile("(?<=[ \n`])(\\.ci/run|(src|\\.\\./shared)/[\\w./]+)").matcher(readme);
    int files = 0;
    while (file.find()) {
      files++;
      Check.holds(file.group() + " stands", Files.exists(Path.of(file.group())));
    }
    Check.holds("README.md names files", files > 5);
    Check.holds(".ci/run can be run", Files.isExecutable(Path.of(".ci/run")));
  }

  private static void everyTestIsNamed(String readme) throws Exception {
    try (Stream<Path> tests = Files.list(TESTS)) {
      tests.forEach(test -> Check.holds("README.md names " + test.getFileName(),
          readme.contains("`" + test.getFileName() + "`")));
    }
    Matcher named = Pattern.compile("`(\\w+Test\\.java)`").matcher(readme);
    while (named.find()) {
      Check.holds(named.group(1) + " stands", Files.exists(TESTS.resolve(named.group(1))));
    }
  }
}
