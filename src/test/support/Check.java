/** Compares answers and exceptions with those that are due, and counts the wrong ones. */
final class Check {
  interface Call {
    long run();
  }

  static final Class<?> INDEX = IndexOutOfBoundsException.class;
  static final Class<?> ARGUMENT = IllegalArgumentException.class;
  static final Class<?> STATE = IllegalStateException.class;

  private static final int MOST_TOLD = 40;

  private static String sentence = "";
  private static int wrong;

  private Check() {}

  /** What follows is a test of this sentence of the document. */
  static void isOf(String ofDocument) {
    sentence = ofDocument + ": ";
  }

  /** The answer as a text, or the exception's class. */
  static String outcome(Call call) {
    try {
      return String.valueOf(call.run());
    } catch (RuntimeException e) {
      return e.getClass().getName();
    }
  }

  static void same(String what, String got, String want) {
    if (!got.equals(want)) {
      wrong++;
      if (wrong <= MOST_TOLD) {
        System.out.println(sentence + what + " answered " + got + ", due is " + want);
      }
    }
  }

  static void due(long want, String what, Call call) {
    same(what, outcome(call), String.valueOf(want));
  }

  static void refused(Class<?> want, String what, Call call) {
    same(what, outcome(call), want.getName());
  }

  static void holds(String what, boolean holds) {
    same(what, String.valueOf(holds), "true");
  }

  static void end(String test) {
    System.out.println(wrong == 0 ? test + ": all as due" : test + ": " + wrong + " not as due");
    if (wrong != 0) {
      System.exit(1);
    }
  }
}
