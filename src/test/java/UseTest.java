/** What an object is for and how long it is used, and the constants. */
public final class UseTest extends Edges {
  public static void main(String[] args) {
    arithmeticOfGates();
    lastCalls();
    constants();
    Document.allNamed("UseTest");
    Check.end("UseTest");
  }

  /** One ledger for all that the document's first sentence names. */
  private static void arithmeticOfGates() {
    of("What it is", "Arithmetic of gates: nets that are told gate by gate or made as adders of three forms and as "
        + "multipliers");
    Check.due(25, "an adder", () -> x.adder(0, RIPPLE, 4));
    Check.due(31, "an adder", () -> x.adder(1, SPREAD, 4));
    Check.due(34, "an adder", () -> x.adder(2, JUMP, 4));
    Check.due(3, "a multiplier", () -> x.multiplier(3, 1));
    for (int asked = 0; asked < 2; asked++) {
      // What is asked twice is answered alike, whatever was asked between.
      areasDelaysAndPaths();
      valuesAndChanges();
      faultsAndDigits();
    }
    Check.due(3, "a net taken away", () -> x.clear(3));
    x.input(3);
    x.input(3);
    Check.due(2, "a net told gate by gate", () -> x.gate(3, AND, 0, 1));
    Check.due(0, "its out", () -> x.out(3, 2));
    off(3, TIMES, 0, 0, 0, NONE);
  }

  private static void areasDelaysAndPaths() {
    int[] areas = {17, 23, 26, 1};
    int[] delays = {7, 6, 5, 1};
    for (int net = 0; net < 4; net++) {
      ofNet(net, 3, areas[net]);
      ofNet(net, 4, delays[net]);
    }
    path(0, 24, 23, 19, 18, 14, 13, 10, 1);
    cost(AND, 2, 5, 1);
    ofNet(0, 4, 11);
    cost(AND, 1, 1, 2);
  }

  private static void valuesAndChanges() {
    for (int net = 0; net < 3; net++) {
      value(net, 15 + (1 << 4), 16);
      bit(net, 0, 1, 1);
    }
    value(3, 3, 1);
    changes(0, 15, 31, 11, 7, 5);
    changes(3, 1, 3, 1, 1, 1);
  }

  private static void faultsAndDigits() {
    unlike(0, 1, NONE);
    unlike(1, 2, NONE);
    stick(0, 9, 1, NONE);
    off(0, PLUS, 192, 2, 384, 0);
    unseen(0, PLUS, 2, 192);
    unseen(0, PLUS, 3, 0);
    unlike(0, 1, 0);
    stick(0, 9, NONE, 1);
    off(0, PLUS, 0, 0, 0, NONE);
    digits(27, -1, -1, 2);
  }

  /** Calls 1 to 511, whatever they were, and then the last one that counts. */
  private static void lastCalls() {
    of("What it is", "An object is used for at most 512 calls after it has been made");
    for (int call = 1; call <= 511; call++) {
      Check.refused(Check.INDEX, "call " + call, () -> x.input(4));
    }
    Check.due(0, "the 512th call", () -> x.input(0));

    x = new GateLedger();
    x.adder(0, JUMP, 6);
    x.stick(0, 0, 1);
    for (int call = 3; call <= 511; call++) {
      Check.due(2048, "call " + call, () -> x.off(0, PLUS, 2));
    }
    Check.due(0, "the 512th call", () -> x.unseen(0, PLUS, 2));

    x = new GateLedger();
    allFull(x);
    for (int call = 4 * 68 + 1; call <= 510; call++) {
      x.changesAnew(call % 4, 0, MOST_NUMBER, call % 3);
    }
    Check.refused(Check.STATE, "the 511th call", () -> x.input(3));
    Check.due(120, "the 512th call", () -> x.clear(3));

    x = new GateLedger();
    for (int call = 1; call <= 510; call += 2) {
      Check.due(36, "call " + call, () -> x.multiplier(2, 3));
      Check.due(36, "call " + (call + 1), () -> x.clear(2));
    }
    Check.due(72, "the 511th call", () -> x.multiplier(2, 4));
    Check.due(0, "the 512th call", () -> x.off(2, TIMES, 0));
  }

  private static void constants() {
    of("The constants", "`NONE = -1`: There is none; a gate that does not stick.");
    Check.due(-1, "NONE", () -> GateLedger.NONE);
    Check.due(-1, "there is none", () -> x.path(0, 0));
    x.input(0);
    Check.due(-1, "a gate that does not stick", () -> x.stick(0, 0, -1));
    of("The constants", "`AND = 0, OR = 1, XOR = 2, NOT = 3`: Kinds.");
    of("The constants", "`RIPPLE = 0, SPREAD = 1, JUMP = 2`: Forms of adders.");
    of("The constants", "`PLUS = 0, TIMES = 1`: Operations.");
    int[] got = {AND, OR, XOR, NOT, RIPPLE, SPREAD, JUMP, PLUS, TIMES};
    int[] due = {0, 1, 2, 3, 0, 1, 2, 0, 1};
    for (int k = 0; k < due.length; k++) {
      int constant = got[k];
      Check.due(due[k], "constant " + k, () -> constant);
    }
  }
}
