import java.util.ArrayList;
import java.util.List;

/**
 * The exceptions of all methods at once: each argument at, and next to, both ends of its range, all
 * of them together, in states that allow the call and in states that do not. The first line of the
 * throws clause decides, and later calls show that the refused call changed nothing.
 */
public final class RefusalTest extends Edges {
  private interface Face {
    long on(GateLedger ledger, int[] arguments);
  }

  private interface Due {
    /** The exception that is due, or null. */
    Class<?> of(int[] arguments);
  }

  /** The range of an argument: both ends, and what is due beyond them. */
  private static final class Range {
    final int least;
    final int greatest;
    final Class<?> due;

    Range(int least, int greatest, Class<?> due) {
      this.least = least;
      this.greatest = greatest;
      this.due = due;
    }

    /** The ends, what is next to them, and the least and the greatest int. */
    int[] tried() {
      List<Integer> tried = new ArrayList<>(List.of(least, greatest));
      for (long number : new long[] {least - 1L, greatest + 1L, LEAST, GREATEST}) {
        if (number == (int) number && !tried.contains((int) number)) {
          tried.add((int) number);
        }
      }
      return tried.stream().mapToInt(Integer::intValue).toArray();
    }

    boolean has(int number) {
      return number >= least && number <= greatest;
    }
  }

  private static final Range NET = new Range(0, 3, Check.INDEX);
  private static final Range KIND = new Range(AND, NOT, Check.INDEX);
  private static final Range NUMBER = new Range(0, MOST_NUMBER, Check.ARGUMENT);

  private static int refused;
  private static int allowed;

  public static void main(String[] args) {
    exceptions();
    nets();
    makers();
    costsAndSticks();
    values();
    areasAndDelays();
    changesOfNets();
    faults();
    digitsByFour();
    System.out.println("RefusalTest: " + refused + " calls refused, " + allowed + " allowed");
    Check.holds("there were calls of both sorts", refused > 1000 && allowed > 100);
    Document.allNamed("RefusalTest");
    Check.end("RefusalTest");
  }

  private static void exceptions() {
    of("Exceptions", "The first line of a method's throws clause that applies decides; a call that throws changes nothing.");
    of("Exceptions", "IndexOutOfBoundsException: there is no such net, gate, kind or place.");
    of("Exceptions", "IllegalArgumentException: another argument is out of its range.");
    of("Exceptions", "IllegalStateException: as the method says.");
  }

  // ---- the methods, state by state

  private static void nets() {
    of(2, "if it has 120 gates, or 30 inputs");
    tryAll("input", Edges::some, (l, a) -> l.input(a[0]), a -> null, NET);
    tryAll("input", Edges::allFull, (l, a) -> l.input(a[0]), a -> Check.STATE, NET);
    tryAll("input", l -> eachNet(l, 30, 30, 0), (l, a) -> l.input(a[0]), a -> Check.STATE, NET);
    tryAll("input", l -> eachNet(l, 29, 29, 0), (l, a) -> l.input(a[0]), a -> null, NET);
    tryAll("input", l -> eachNet(l, 1, 120, 0), (l, a) -> l.input(a[0]), a -> onFull(a), NET);
    tryAll("input", l -> eachNet(l, 1, 119, 0), (l, a) -> l.input(a[0]), a -> null, NET);

    of(3, "if there is no such net, kind or gate");
    Range gate = gates(11);
    tryAll("gate", Edges::some, (l, a) -> l.gate(0, a[0], a[1], a[2]),
        a -> ofGate(a, 0, 10), KIND, gate, anyFor(gate));
    Range none = gates(0);
    tryAll("gate without gates", Edges::some, (l, a) -> l.gate(3, a[0], a[1], a[2]),
        a -> null, KIND, none, anyFor(none));
    Range gateOfFull = gates(120);
    tryAll("gate of 120", l -> full(l, 1), (l, a) -> l.gate(1, a[0], a[1], a[2]),
        a -> ofGate(a, 1, 119), KIND, gateOfFull, anyFor(gateOfFull));
    tryAll("gate of all nets", Edges::allFull, (l, a) -> l.gate(a[0], a[1], 0, 0),
        a -> Check.STATE, NET, KIND);

    of(4, "if there is no such net or gate");
    tryAll("out", Edges::some, (l, a) -> l.out(0, a[0]), a -> null, gate);
    tryAll("out of all nets", Edges::some, (l, a) -> l.out(a[0], 0),
        a -> a[0] == 3 ? Check.INDEX : null, NET);
    tryAll("17th out", l -> full(l, 2), (l, a) -> l.out(2, a[0]), a -> Check.STATE, gateOfFull);
    tryAll("17th out of all nets", Edges::allFull, (l, a) -> l.out(a[0], a[1]),
        a -> Check.STATE, NET, gateOfFull);
    tryAll("16th out", l -> eachNet(l, 1, 2, 15), (l, a) -> l.out(a[0], a[1]),
        a -> null, NET, gates(2));

    of(7, "if there is no such net");
    tryAll("clear", Edges::some, (l, a) -> l.clear(a[0]), a -> null, NET);
  }

  private static void makers() {
    Range form = new Range(RIPPLE, JUMP, Check.ARGUMENT);
    Range ofAdder = new Range(1, 6, Check.ARGUMENT);
    Range ofMultiplier = new Range(1, 4, Check.ARGUMENT);
    Due onlyWithoutGates = a -> a[0] == 3 ? null : Check.STATE;
    of(5, "if it has a gate");
    Face adder = (l, a) -> l.adder(a[0], a[1], a[2]);
    tryAll("adder", Edges::some, adder, onlyWithoutGates, NET, form, ofAdder);
    tryAll("adder", Edges::empty, adder, a -> null, NET, form, ofAdder);
    tryAll("adder", l -> eachNet(l, 1, 1, 0), adder, a -> Check.STATE, NET, form, ofAdder);
    tryAll("adder", Edges::allFull, adder, a -> Check.STATE, NET, form, ofAdder);
    of(6, "if it has a gate");
    Face multiplier = (l, a) -> l.multiplier(a[0], a[1]);
    tryAll("multiplier", Edges::some, multiplier, onlyWithoutGates, NET, ofMultiplier);
    tryAll("multiplier", Edges::empty, multiplier, a -> null, NET, ofMultiplier);
    tryAll("multiplier", l -> eachNet(l, 1, 1, 0), multiplier, a -> Check.STATE, NET, ofMultiplier);
    tryAll("multiplier", Edges::allFull, multiplier, a -> Check.STATE, NET, ofMultiplier);
  }

  private static void costsAndSticks() {
    of(8, "if delay or area is out of range");
    tryAll("cost", Edges::some, (l, a) -> l.cost(a[0], a[1], a[2]), a -> null,
        KIND, new Range(1, 9, Check.ARGUMENT), new Range(0, 99, Check.ARGUMENT));
    of(9, "if bit is out of range");
    Range bit = new Range(NONE, 1, Check.ARGUMENT);
    tryAll("stick", Edges::some, (l, a) -> l.stick(0, a[0], a[1]), a -> null, gates(11), bit);
    tryAll("stick", Edges::some, (l, a) -> l.stick(3, a[0], a[1]), a -> null, gates(0), bit);
    tryAll("stick", Edges::allFull, (l, a) -> l.stick(a[0], a[1], a[2]), a -> null,
        NET, gates(120), bit);
  }

  private static void values() {
    of(10, "if number is out of range");
    tryAll("bit", Edges::some, (l, a) -> l.bit(0, a[0], a[1]), a -> null, gates(11), NUMBER);
    tryAll("bit", Edges::some, (l, a) -> l.bit(3, a[0], a[1]), a -> null, gates(0), NUMBER);
    tryAll("bit", Edges::allFull, (l, a) -> l.bit(a[0], a[1], a[2]), a -> null,
        NET, gates(120), NUMBER);
    of(11, "if number is out of range");
    tryAll("value", Edges::some, (l, a) -> l.value(a[0], a[1]), a -> null, NET, NUMBER);
    tryAll("value", Edges::allFull, (l, a) -> l.value(a[0], a[1]), a -> null, NET, NUMBER);
    of(12, "if number is out of range");
    tryAll("valueAnew", Edges::some, (l, a) -> l.valueAnew(a[0], a[1]), a -> null, NET, NUMBER);
    tryAll("valueAnew", Edges::allFull, (l, a) -> l.valueAnew(a[0], a[1]), a -> null, NET, NUMBER);
  }

  private static void areasAndDelays() {
    of(13, "if what is out of range");
    Range what = new Range(0, 6, Check.ARGUMENT);
    tryAll("ofNet", Edges::some, (l, a) -> l.ofNet(a[0], a[1]), a -> null, NET, what);
    tryAll("ofNet", Edges::allFull, (l, a) -> l.ofNet(a[0], a[1]), a -> null, NET, what);
    of(14, "if there is no such net or gate");
    tryAll("time", Edges::some, (l, a) -> l.time(0, a[0]), a -> null, gates(11));
    tryAll("time", Edges::some, (l, a) -> l.time(3, a[0]), a -> null, gates(0));
    tryAll("time", Edges::allFull, (l, a) -> l.time(a[0], a[1]), a -> null, NET, gates(120));
    of(15, "if there is no such net, or place is below 0");
    Range place = new Range(0, GREATEST, Check.INDEX);
    tryAll("path", Edges::some, (l, a) -> l.path(a[0], a[1]), a -> null, NET, place);
    tryAll("path", Edges::allFull, (l, a) -> l.path(a[0], a[1]), a -> null, NET, place);
  }

  private static void changesOfNets() {
    Range what = new Range(0, 2, Check.ARGUMENT);
    of(16, "if from, to or what is out of range");
    tryAll("changes", Edges::some, (l, a) -> l.changes(a[0], a[1], a[2], a[3]), a -> null,
        NET, NUMBER, NUMBER, what);
    of(17, "if from, to or what is out of range");
    tryAll("changesAnew", Edges::some, (l, a) -> l.changesAnew(a[0], a[1], a[2], a[3]), a -> null,
        NET, NUMBER, NUMBER, what);
  }

  private static void faults() {
    Range operation = new Range(PLUS, TIMES, Check.ARGUMENT);
    Range what = new Range(0, 3, Check.ARGUMENT);
    Range m = new Range(2, 99, Check.ARGUMENT);
    of(18, "if it has not 2, 4, 6, 8, 10 or 12 inputs");
    Face off = (l, a) -> l.off(a[0], a[1], a[2]);
    Due lessThanTwo = a -> a[0] >= 2 ? Check.STATE : null;
    tryAll("off", Edges::some, off, lessThanTwo, NET, operation, what);
    tryAll("off", Edges::allFull, off, a -> Check.STATE, NET, operation, what);
    tryAll("off", l -> eachNet(l, 12, 13, 1), off, a -> null, NET, operation, what);
    tryAll("off", l -> eachNet(l, 13, 13, 1), off, a -> Check.STATE, NET, operation, what);
    of(19, "if it has not 2, 4, 6, 8, 10 or 12 inputs");
    Face unseen = (l, a) -> l.unseen(a[0], a[1], a[2]);
    tryAll("unseen", Edges::some, unseen, lessThanTwo, NET, operation, m);
    tryAll("unseen", Edges::allFull, unseen, a -> Check.STATE, NET, operation, m);
    tryAll("unseen", l -> eachNet(l, 12, 13, 1), unseen, a -> null, NET, operation, m);
    tryAll("unseen", l -> eachNet(l, 14, 14, 1), unseen, a -> Check.STATE, NET, operation, m);
    of(20, "if they have not as many inputs, or more than 12");
    Face unlike = (l, a) -> l.unlike(a[0], a[1]);
    int[] inputsOfSome = {4, 4, 1, 0};
    tryAll("unlike", Edges::some, unlike,
        a -> inputsOfSome[a[0]] == inputsOfSome[a[1]] ? null : Check.STATE, NET, NET);
    tryAll("unlike", Edges::empty, unlike, a -> null, NET, NET);
    tryAll("unlike", Edges::allFull, unlike, a -> Check.STATE, NET, NET);
    tryAll("unlike", l -> eachNet(l, 12, 14, 2), unlike, a -> null, NET, NET);
    tryAll("unlike", l -> eachNet(l, 13, 14, 2), unlike, a -> Check.STATE, NET, NET);
  }

  private static void digitsByFour() {
    of(21, "if there is no such place");
    tryAll("digit", Edges::empty, (l, a) -> l.digit(a[1], a[0]), a -> null,
        new Range(0, 15, Check.INDEX), new Range(0, GREATEST, Check.ARGUMENT));
  }

  // ---- how they are tried

  /** Each way to take for each argument one of the numbers that are tried for its range. */
  private static void tryAll(String name, Later.Setup setup, Face call, Due state, Range... ranges) {
    int[] arguments = new int[ranges.length];
    tryFrom(0, name, setup, call, state, ranges, arguments);
  }

  private static void tryFrom(int place, String name, Later.Setup setup, Face call, Due state,
      Range[] ranges, int[] arguments) {
    if (place == ranges.length) {
      tryOne(name, setup, call, state, ranges, arguments.clone());
      return;
    }
    for (int number : ranges[place].tried()) {
      arguments[place] = number;
      tryFrom(place + 1, name, setup, call, state, ranges, arguments);
    }
  }

  private static void tryOne(String name, Later.Setup setup, Face call, Due state, Range[] ranges,
      int[] arguments) {
    String what = name + java.util.Arrays.toString(arguments);
    Class<?> due = ofArguments(ranges, arguments);
    if (due == null) {
      due = state.of(arguments);
    }
    if (due != null) {
      refused++;
      Later.refuses(due, what, setup, l -> call.on(l, arguments));
    } else {
      allowed++;
      GateLedger ledger = new GateLedger();
      setup.on(ledger);
      String outcome = Check.outcome(() -> call.on(ledger, arguments));
      Check.holds(what + " is allowed, and answers a number: " + outcome, outcome.matches("-?\\d+"));
    }
  }

  /** No such net, gate, kind or place comes first, then another argument. */
  private static Class<?> ofArguments(Range[] ranges, int[] arguments) {
    for (Class<?> due : List.of(Check.INDEX, Check.ARGUMENT)) {
      for (int place = 0; place < ranges.length; place++) {
        if (ranges[place].due == due && !ranges[place].has(arguments[place])) {
          return due;
        }
      }
    }
    return null;
  }

  private static Range gates(int size) {
    return new Range(0, size - 1, Check.INDEX);
  }

  /** Tried as the range is, but not refused beyond it: the second source of NOT counts for nothing. */
  private static Range anyFor(Range range) {
    return new Range(range.least, range.greatest, null);
  }

  private static Class<?> ofGate(int[] a, int net, int lastGate) {
    boolean noSecond = a[0] != NOT && (a[2] < 0 || a[2] > lastGate);
    return noSecond ? Check.INDEX : net == 1 ? Check.STATE : null;
  }

  private static void eachNet(GateLedger ledger, int inputs, int gates, int outs) {
    // Four nets of 120 gates would take most of the calls: two of them have a net's last room.
    int nets = gates > 60 ? 2 : 4;
    for (int net = 0; net < nets; net++) {
      inputs(ledger, net, inputs);
      chain(ledger, net, gates);
      outs(ledger, net, 0, outs);
    }
  }

  private static Class<?> onFull(int[] a) {
    return a[0] < 2 ? Check.STATE : null;
  }
}
