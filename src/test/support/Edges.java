/** What the tests of the document's edges share: a new ledger for each sentence, and nets at their bounds. */
abstract class Edges {
  interface FaceOfNet {
    long on(GateLedger ledger, int net);
  }

  static final int NONE = GateLedger.NONE;
  static final int AND = GateLedger.AND;
  static final int OR = GateLedger.OR;
  static final int XOR = GateLedger.XOR;
  static final int NOT = GateLedger.NOT;
  static final int RIPPLE = GateLedger.RIPPLE;
  static final int SPREAD = GateLedger.SPREAD;
  static final int JUMP = GateLedger.JUMP;
  static final int PLUS = GateLedger.PLUS;
  static final int TIMES = GateLedger.TIMES;

  static final int LEAST = Integer.MIN_VALUE;
  static final int GREATEST = Integer.MAX_VALUE;
  static final int MOST_NUMBER = 1073741823;
  static final int[] NO_NETS = {-1, 4, LEAST, GREATEST};
  static final int[] NO_NUMBERS = {-1, MOST_NUMBER + 1, LEAST, GREATEST};

  static GateLedger x = new GateLedger();

  /** The tests that follow are of this sentence, and begin with a new ledger. */
  static void of(String section, String words) {
    Document.name(section, words);
    x = new GateLedger();
  }

  static void of(int promise, String words) {
    of("Promise " + promise, words);
  }

  // ---- nets at their bounds

  static void inputs(GateLedger ledger, int net, int count) {
    for (int k = 0; k < count; k++) {
      ledger.input(net);
    }
  }

  static void outs(GateLedger ledger, int net, int gate, int count) {
    for (int k = 0; k < count; k++) {
      ledger.out(net, gate);
    }
  }

  /** Gates, each a NOT of the one ahead of it, until the net has so many. */
  static void chain(GateLedger ledger, int net, int size) {
    for (int gate = ledger.ofNet(net, 0); gate < size; gate++) {
      ledger.gate(net, NOT, gate - 1, 0);
    }
  }

  /** 120 gates, 30 inputs among them, and 16 outs: 68 calls. */
  static void full(GateLedger ledger, int net) {
    ledger.adder(net, JUMP, 6);
    inputs(ledger, net, 18);
    for (int gate = 80; gate < 120; gate++) {
      ledger.gate(net, gate % 4, gate - 1, gate - 40);
    }
    for (int place = 7; place < 16; place++) {
      ledger.out(net, 103 + place);
    }
  }

  static void allFull(GateLedger ledger) {
    for (int net = 0; net < 4; net++) {
      full(ledger, net);
    }
  }

  /** Nets of 11, 12, 2 and no gates, with costs of their own and gates that stick. */
  static void some(GateLedger ledger) {
    ledger.cost(AND, 2, 10);
    ledger.cost(OR, 3, 20);
    ledger.cost(XOR, 4, 30);
    ledger.cost(NOT, 9, 40);
    ledger.adder(0, RIPPLE, 2);
    ledger.stick(0, 2, 1);
    ledger.stick(0, 6, 0);
    ledger.multiplier(1, 2);
    ledger.stick(1, 5, 1);
    ledger.input(2);
    ledger.gate(2, NOT, 0, 7);
    ledger.out(2, 1);
    ledger.out(2, 0);
  }

  static void empty(GateLedger ledger) {
    // A new ledger has four nets without gates.
  }

  // ---- calls

  static void gate(int net, int kind, int first, int second) {
    x.gate(net, kind, first, second);
  }

  static void noSuchNet(FaceOfNet call) {
    for (int net : NO_NETS) {
      Later.refuses(Check.INDEX, "net " + net, Edges::some, l -> call.on(l, net));
    }
  }

  static void counts(int net, int gates, int inputs, int outs) {
    ofNet(net, 0, gates);
    ofNet(net, 1, inputs);
    ofNet(net, 2, outs);
  }

  static void ofNet(int net, int what, int due) {
    Check.due(due, "ofNet(" + net + ", " + what + ")", () -> x.ofNet(net, what));
  }

  static void bit(int net, int gate, int number, int due) {
    Check.due(due, "bit(" + net + ", " + gate + ", " + number + ")", () -> x.bit(net, gate, number));
  }

  static void value(int net, int number, int due) {
    Check.due(due, "value(" + net + ", " + number + ")", () -> x.value(net, number));
    Check.due(due, "valueAnew(" + net + ", " + number + ")", () -> x.valueAnew(net, number));
  }

  static void time(int net, int gate, int due) {
    Check.due(due, "time(" + net + ", " + gate + ")", () -> x.time(net, gate));
  }

  /** The whole path, and NONE behind it. */
  static void path(int net, int... due) {
    for (int place = 0; place <= due.length; place++) {
      int p = place;
      int gate = p < due.length ? due[p] : NONE;
      Check.due(gate, "path(" + net + ", " + p + ")", () -> x.path(net, p));
    }
  }

  /** How many changes, the greatest time of one, and how many of outs. */
  static void changes(int net, int from, int to, int... due) {
    for (int what = 0; what < due.length; what++) {
      int w = what;
      String call = "(" + net + ", " + from + ", " + to + ", " + w + ")";
      Check.due(due[w], "changes" + call, () -> x.changes(net, from, to, w));
      Check.due(due[w], "changesAnew" + call, () -> x.changesAnew(net, from, to, w));
    }
  }

  /** For how many numbers, the greatest by how much, all together, the least number. */
  static void off(int net, int operation, int... due) {
    for (int what = 0; what < due.length; what++) {
      int w = what;
      String call = "off(" + net + ", " + operation + ", " + w + ")";
      Check.due(due[w], call, () -> x.off(net, operation, w));
    }
  }

  static void unseen(int net, int operation, int m, int due) {
    String call = "unseen(" + net + ", " + operation + ", " + m + ")";
    Check.due(due, call, () -> x.unseen(net, operation, m));
  }

  static void unlike(int net, int other, int due) {
    Check.due(due, "unlike(" + net + ", " + other + ")", () -> x.unlike(net, other));
  }

  static void digits(int number, int... due) {
    for (int place = 0; place <= 15; place++) {
      int p = place;
      int digit = p < due.length ? due[p] : 0;
      Check.due(digit, "digit(" + number + ", " + p + ")", () -> x.digit(number, p));
    }
  }

  static void stick(int net, int gate, int bit, int due) {
    String call = "stick(" + net + ", " + gate + ", " + bit + ")";
    Check.due(due, call, () -> x.stick(net, gate, bit));
  }

  static void cost(int kind, int delay, int area, int due) {
    String call = "cost(" + kind + ", " + delay + ", " + area + ")";
    Check.due(due, call, () -> x.cost(kind, delay, area));
  }

  /** As off a new net: nothing is there, nothing changes, and it is not off for any number. */
  static void withoutGates(int net) {
    for (int what = 0; what <= 6; what++) {
      ofNet(net, what, 0);
    }
    value(net, 0, 0);
    value(net, MOST_NUMBER, 0);
    path(net);
    changes(net, 0, MOST_NUMBER, 0, 0, 0);
    unlike(net, net, NONE);
    Check.refused(Check.INDEX, "bit of no gate", () -> x.bit(net, 0, 0));
    Check.refused(Check.INDEX, "time of no gate", () -> x.time(net, 0));
    Check.refused(Check.INDEX, "stick of no gate", () -> x.stick(net, 0, NONE));
    Check.refused(Check.INDEX, "out of no gate", () -> x.out(net, 0));
    Check.refused(Check.INDEX, "NOT of no gate", () -> x.gate(net, NOT, 0, 0));
    Check.refused(Check.STATE, "off without inputs", () -> x.off(net, PLUS, 0));
    Check.refused(Check.STATE, "unseen without inputs", () -> x.unseen(net, PLUS, 2));
  }
}
