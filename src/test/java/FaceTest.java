import java.lang.reflect.Constructor;
import java.lang.reflect.Field;
import java.lang.reflect.Method;
import java.lang.reflect.Modifier;
import java.nio.file.Files;
import java.nio.file.Path;
import java.util.ArrayList;
import java.util.List;
import java.util.TreeSet;
import java.util.regex.Matcher;
import java.util.regex.Pattern;

/** The public face as the document has it, and those rules of LANGUAGE.md that can be seen. */
public final class FaceTest {
  private static final Path DOCUMENT = Path.of("../shared/DOC.md");
  private static final Path PROGRAM = Path.of("src/main/java/GateLedger.java");

  private static final String[] RULED_OUT = {
    "\\bimport\\b", "\\bpackage\\b", "\\btry\\b", "\\bcatch\\b", "\\bfinally\\b", "\\bassert\\b",
    "\\bsynchronized\\b", "->", "::", "\\bequals\\b", "\\bhashCode\\b", "\\btoString\\b",
    "\\bSystem\\.(?!arraycopy)", "Exact\\b", "\\bvar\\b", "\\bprotected\\b", "\\bObject\\b"
  };

  public static void main(String[] args) throws Exception {
    faceIsTheDocuments();
    groupsAreNamed();
    nothingElseIsVisible();
    namesOfTheFaceAreItsOwn();
    textKeepsToTheLanguage();
    methodsAreShort();
    Check.end("FaceTest");
  }

  private static void faceIsTheDocuments() throws Exception {
    String document = Files.readString(DOCUMENT);
    Matcher told = Pattern.compile("    public (int \\w+\\(.*\\) throws .*);\n").matcher(document);
    TreeSet<String> due = new TreeSet<>();
    while (told.find()) {
      due.add(told.group(1).replaceAll("(int) \\w+(?=[,)])", "$1").replace(", ", ","));
    }
    TreeSet<String> got = new TreeSet<>();
    for (Method method : GateLedger.class.getDeclaredMethods()) {
      if (Modifier.isPublic(method.getModifiers())) {
        got.add(method.toGenericString().replace("public ", "").replace("GateLedger.", "")
            .replace("java.lang.", ""));
      }
    }
    Check.same("the methods", String.join("\n", got), String.join("\n", due).replace(", ", ","));
    Check.same("how many methods", String.valueOf(got.size()), "20");
    int[] constants = {
      GateLedger.NONE, GateLedger.AND, GateLedger.OR, GateLedger.XOR, GateLedger.NOT,
      GateLedger.RIPPLE, GateLedger.SPREAD, GateLedger.JUMP, GateLedger.PLUS, GateLedger.TIMES
    };
    Check.same("the constants", java.util.Arrays.toString(constants),
        "[-1, 0, 1, 2, 3, 0, 1, 2, 0, 1]");
  }

  /** "Ahead of the calls .. the interface says: .." */
  private static void groupsAreNamed() throws Exception {
    Matcher told = Pattern.compile("Ahead of the calls (.*) the interface says: (---- [^\n]*)\\.\n")
        .matcher(Files.readString(DOCUMENT));
    String program = Files.readString(PROGRAM);
    int groups = 0;
    while (told.find()) {
      groups++;
      int from = program.indexOf("  // " + told.group(2) + "\n");
      Check.holds(told.group(2) + " stands", from >= 0);
      int to = program.indexOf("  // ----", Math.max(from, 0) + 1);
      Matcher method = Pattern.compile("\n  public int (\\w+)\\(")
          .matcher(program.substring(Math.max(from, 0), to < 0 ? program.length() : to));
      List<String> got = new ArrayList<>();
      while (method.find()) {
        got.add("`" + method.group(1) + "`");
      }
      Check.same(told.group(2), String.join(", ", got), told.group(1));
    }
    Check.same("how many groups", String.valueOf(groups), "6");
  }

  private static void nothingElseIsVisible() {
    int face = Modifier.PUBLIC | Modifier.FINAL;
    Check.holds("public and final", GateLedger.class.getModifiers() == face);
    int constants = 0;
    for (Field field : GateLedger.class.getDeclaredFields()) {
      boolean isPublic = Modifier.isPublic(field.getModifiers());
      constants += isPublic ? 1 : 0;
      Check.holds(field + " is private or a constant",
          isPublic || Modifier.isPrivate(field.getModifiers()));
    }
    Check.same("constants", String.valueOf(constants), "10");
    for (Method method : GateLedger.class.getDeclaredMethods()) {
      Check.holds(method + " is private or public",
          (method.getModifiers() & (Modifier.PUBLIC | Modifier.PRIVATE)) != 0);
    }
    for (Constructor<?> constructor : GateLedger.class.getDeclaredConstructors()) {
      Check.holds("the constructor", constructor.getParameterCount() == 0
          && Modifier.isPublic(constructor.getModifiers()));
    }
    Class<?>[] inside = GateLedger.class.getDeclaredClasses();
    Check.holds("some twelve classes", inside.length < 12);
    for (Class<?> one : inside) {
      Check.holds(one + " is private and static",
          Modifier.isPrivate(one.getModifiers()) && Modifier.isStatic(one.getModifiers()));
    }
    staticFieldsAreFinal(inside);
  }

  private static void staticFieldsAreFinal(Class<?>[] inside) {
    List<Class<?>> classes = new ArrayList<>(List.of(inside));
    classes.add(GateLedger.class);
    for (Class<?> one : classes) {
      int own = 0;
      for (Field field : one.getDeclaredFields()) {
        boolean isStatic = Modifier.isStatic(field.getModifiers());
        own += isStatic ? 0 : 1;
        Check.holds(field + " is final", !isStatic || Modifier.isFinal(field.getModifiers()));
      }
      Check.holds(one + " has some twenty fields", own <= 20);
    }
  }

  private static void namesOfTheFaceAreItsOwn() {
    TreeSet<String> face = new TreeSet<>();
    for (Method method : GateLedger.class.getMethods()) {
      face.add(method.getName());
    }
    List<Class<?>> classes = new ArrayList<>(List.of(GateLedger.class.getDeclaredClasses()));
    classes.add(GateLedger.class);
    for (Class<?> one : classes) {
      for (Method method : one.getDeclaredMethods()) {
        Check.holds(method + " has a name of its own",
            one == GateLedger.class && Modifier.isPublic(method.getModifiers())
                || !face.contains(method.getName()));
        Check.holds(method + " has at most seven parameters", method.getParameterCount() <= 7);
      }
    }
  }

  private static void textKeepsToTheLanguage() throws Exception {
    String program = Files.readString(PROGRAM);
    String code = program.replaceAll("(?s)/\\*.*?\\*/", "").replaceAll("//[^\n]*", "")
        .replaceAll("\"[^\"\n]*\"", "\"\"");
    for (String ruledOut : RULED_OUT) {
      Check.holds("no " + ruledOut, !Pattern.compile(ruledOut).matcher(code).find());
    }
    Check.holds("signs 1 to 127", program.chars().allMatch(sign -> sign > 0 && sign < 128));
    Matcher thrown = Pattern.compile("throw (?!new (IndexOutOfBounds|IllegalArgument|IllegalState)"
        + "Exception\\(\"\"\\);)").matcher(code);
    Check.holds("throws as rule 6 has it", !thrown.find());
    Matcher library = Pattern.compile("\\b(Math|Integer|Long|Arrays|String\\w*)\\.\\w+").matcher(code);
    List<String> used = List.of("Math.max", "Math.min", "Math.abs", "Long.bitCount");
    while (library.find()) {
      Check.holds("use of " + library.group(), used.contains(library.group()));
    }
  }

  /** No method has an empty line inside, so what stands between two of them tells enough. */
  private static void methodsAreShort() throws Exception {
    int together = 0;
    int most = 0;
    for (String line : Files.readAllLines(PROGRAM)) {
      together = line.isEmpty() ? 0 : together + 1;
      most = Math.max(most, together);
    }
    Check.holds("methods of at most sixty lines", most <= 60);
  }
}
