import java.lang.reflect.Constructor;
import java.lang.reflect.Field;
import java.lang.reflect.Method;
import java.lang.reflect.Modifier;
import java.nio.file.Files;
import java.nio.file.Path;
import java.util.ArrayList;
import java.util.List;
import java.util.TreeSet;
import java.util.regex.Matcher;
import java.util.regex.Pattern;

/** The public face as the document has it, and those rules of LANGUAGE.md that can be seen. */
public final class FaceTest {
  private static final Path PROGRAM = Path.of("src/main/java/GateLedger.java");

  private static final String[] RULED_OUT = {
    "\\bimport\\b", "\\bpackage\\b", "\\btry\\b", "\\bcatch\\b", "\\bfinally\\b", "\\bassert\\b",
    "\\bsynchronized\\b", "->", "::", "\\bequals\\b", "\\bhashCode\\b", "\\btoString\\b",
    "\\bSystem\\.(?!arraycopy)", "Exact\\b", "\\bvar\\b", "\\bprotected\\b", "\\bObject\\b"
  };

  public static void main(String[] args) throws Exception {
    faceIsTheDocuments();
    groupsAreNamed();
    nothingElseIsVisible();
    namesOfTheFaceAreItsOwn();
    textKeepsToTheLanguage();
    methodsAreShort();
    Document.allNamed("FaceTest");
    Document.everySectionHasATest();
    Check.end("FaceTest");
  }

  /** Each line of the document's code is one of these forms, and all of them together are the face. */
  private static void faceIsTheDocuments() throws Exception {
    TreeSet<String> due = new TreeSet<>();
    for (String line : Document.sentences("The public face")) {
      Document.name("The public face", line);
      String told = line.strip();
      if (told.startsWith("public static final int ")) {
        for (String constant : told.replaceAll("^public static final int |;$", "").split(", ")) {
          due.add("public static final int " + constant);
        }
      } else if (told.startsWith("public final class ") || told.startsWith("public GateLedger(")) {
        due.add(told.replaceAll(" \\{$|;$", ""));
      } else if (told.startsWith("public int ")) {
        due.add(told.replaceAll("(int) \\w+(?=[,)])", "$1").replaceAll(";$", "").replace(", ", ","));
      } else {
        Check.holds("an empty line or a bracket: " + told, told.matches("|\\}|```(java)?"));
      }
    }
    Check.same("how many of the document", String.valueOf(due.size()), "32");
    Check.same("the face", String.join("\n", face()), String.join("\n", due));
  }

  private static TreeSet<String> face() throws Exception {
    TreeSet<String> face = new TreeSet<>();
    face.add(GateLedger.class.toGenericString());
    for (Constructor<?> constructor : GateLedger.class.getConstructors()) {
      face.add(constructor.toGenericString());
    }
    for (Field field : GateLedger.class.getFields()) {
      String of = field.toGenericString().replace("GateLedger.", "");
      face.add(of + " = " + (Modifier.isStatic(field.getModifiers()) ? field.get(null) : "?"));
    }
    for (Method method : GateLedger.class.getDeclaredMethods()) {
      if (Modifier.isPublic(method.getModifiers())) {
        face.add(method.toGenericString().replace("GateLedger.", "").replace("java.lang.", ""));
      }
    }
    return face;
  }

  /** "Ahead of the calls .. the interface says: .." */
  private static void groupsAreNamed() throws Exception {
    Pattern form = Pattern.compile("Ahead of the calls (.*) the interface says: (---- .*)\\.");
    String program = Files.readString(PROGRAM);
    int groups = 0;
    for (String line : Document.sentences("The groups")) {
      Document.name("The groups", line);
      Matcher told = form.matcher(line);
      if (told.matches()) {
        groups++;
        Check.same(told.group(2), methodsBehind(program, told.group(2)), told.group(1));
      }
    }
    Check.same("how many groups", String.valueOf(groups), "6");
  }

  private static String methodsBehind(String program, String group) {
    int from = program.indexOf("  // " + group + "\n");
    Check.holds(group + " stands", from >= 0);
    int to = program.indexOf("  // ----", Math.max(from, 0) + 1);
    Matcher method = Pattern.compile("\n  public int (\\w+)\\(")
        .matcher(program.substring(Math.max(from, 0), to < 0 ? program.length() : to));
    List<String> names = new ArrayList<>();
    while (method.find()) {
      names.add("`" + method.group(1) + "`");
    }
    return String.join(", ", names);
  }

  private static void nothingElseIsVisible() {
    int face = Modifier.PUBLIC | Modifier.FINAL;
    Check.holds("public and final", GateLedger.class.getModifiers() == face);
    int constants = 0;
    for (Field field : GateLedger.class.getDeclaredFields()) {
      boolean isPublic = Modifier.isPublic(field.getModifiers());
      constants += isPublic ? 1 : 0;
      Check.holds(field + " is private or a constant",
          isPublic || Modifier.isPrivate(field.getModifiers()));
    }
    Check.same("constants", String.valueOf(constants), "10");
    for (Method method : GateLedger.class.getDeclaredMethods()) {
      Check.holds(method + " is private or public",
          (method.getModifiers() & (Modifier.PUBLIC | Modifier.PRIVATE)) != 0);
    }
    for (Constructor<?> constructor : GateLedger.class.getDeclaredConstructors()) {
      Check.holds("the constructor", constructor.getParameterCount() == 0
          && Modifier.isPublic(constructor.getModifiers()));
    }
    Class<?>[] inside = GateLedger.class.getDeclaredClasses();
    Check.holds("some twelve classes", inside.length < 12);
    for (Class<?> one : inside) {
      Check.holds(one + " is private and static",
          Modifier.isPrivate(one.getModifiers()) && Modifier.isStatic(one.getModifiers()));
    }
    staticFieldsAreFinal(inside);
  }

  private static void staticFieldsAreFinal(Class<?>[] inside) {
    List<Class<?>> classes = new ArrayList<>(List.of(inside));
    classes.add(GateLedger.class);
    for (Class<?> one : classes) {
      int own = 0;
      for (Field field : one.getDeclaredFields()) {
        boolean isStatic = Modifier.isStatic(field.getModifiers());
        own += isStatic ? 0 : 1;
        Check.holds(field + " is final", !isStatic || Modifier.isFinal(field.getModifiers()));
      }
      Check.holds(one + " has some twenty fields", own <= 20);
    }
  }

  private static void namesOfTheFaceAreItsOwn() {
    TreeSet<String> face = new TreeSet<>();
    for (Method method : GateLedger.class.getMethods()) {
      face.add(method.getName());
    }
    List<Class<?>> classes = new ArrayList<>(List.of(GateLedger.class.getDeclaredClasses()));
    classes.add(GateLedger.class);
    for (Class<?> one : classes) {
      for (Method method : one.getDeclaredMethods()) {
        Check.holds(method + " has a name of its own",
            one == GateLedger.class && Modifier.isPublic(method.getModifiers())
                || !face.contains(method.getName()));
        Check.holds(method + " has at most seven parameters", method.getParameterCount() <= 7);
      }
    }
  }

  private static void textKeepsToTheLanguage() throws Exception {
    String program = Files.readString(PROGRAM);
    String code = program.replaceAll("(?s)/\\*.*?\\*/", "").replaceAll("//[^\n]*", "")
        .replaceAll("\"[^\"\n]*\"", "\"\"");
    for (String ruledOut : RULED_OUT) {
      Check.holds("no " + ruledOut, !Pattern.compile(ruledOut).matcher(code).find());
    }
    Check.holds("signs 1 to 127", program.chars().allMatch(sign -> sign > 0 && sign < 128));
    Matcher thrown = Pattern.compile("throw (?!new (IndexOutOfBounds|IllegalArgument|IllegalState)"
        + "Exception\\(\"\"\\);)").matcher(code);
    Check.holds("throws as rule 6 has it", !thrown.find());
    Matcher library = Pattern.compile("\\b(Math|Integer|Long|Arrays|String\\w*)\\.\\w+").matcher(code);
    List<String> used = List.of("Math.max", "Math.min", "Math.abs", "Long.bitCount");
    while (library.find()) {
      Check.holds("use of " + library.group(), used.contains(library.group()));
    }
  }

  /** No method has an empty line inside, so what stands between two of them tells enough. */
  private static void methodsAreShort() throws Exception {
    int together = 0;
    int most = 0;
    for (String line : Files.readAllLines(PROGRAM)) {
      together = line.isEmpty() ? 0 : together + 1;
      most = Math.max(most, together);
    }
    Check.holds("methods of at most sixty lines", most <= 60);
  }
}
