/** Each promise by itself: ordinary answers, the edges that the document names, and wrong arguments. */
public final class PromiseTest {
  private static final int AND = GateLedger.AND;
  private static final int OR = GateLedger.OR;
  private static final int XOR = GateLedger.XOR;
  private static final int NOT = GateLedger.NOT;
  private static final int NONE = GateLedger.NONE;
  private static final int MOST = 1073741823;
  private static final int[] NO_NETS = {-1, 4, Integer.MIN_VALUE, Integer.MAX_VALUE};

  private GateLedger x = new GateLedger();

  public static void main(String[] args) {
    new PromiseTest().promise01NewObject();
    new PromiseTest().promise02Input();
    new PromiseTest().promise03Gate();
    new PromiseTest().promise04Out();
    new PromiseTest().promise05Adder();
    new PromiseTest().promise06Multiplier();
    new PromiseTest().promise07Clear();
    new PromiseTest().promise08Cost();
    new PromiseTest().promise09Stick();
    new PromiseTest().promise10Bit();
    new PromiseTest().promise11And12Value();
    new PromiseTest().promise13OfNet();
    new PromiseTest().promise14Time();
    new PromiseTest().promise15Path();
    new PromiseTest().promise16And17Changes();
    new PromiseTest().promise16And17LongestChanges();
    new PromiseTest().promise18Off();
    new PromiseTest().promise19Unseen();
    new PromiseTest().promise20Unlike();
    new PromiseTest().promise21Digit();
    Check.end("PromiseTest");
  }

  // ---- promises

  private void promise01NewObject() {
    for (int net = 0; net < 4; net++) {
      int n = net;
      for (int what = 0; what <= 6; what++) {
        ofNet(n, what, 0);
      }
      Check.due(0, "1: value", () -> x.value(n, MOST));
      Check.due(0, "1: valueAnew", () -> x.valueAnew(n, MOST));
      Check.due(NONE, "1: path", () -> x.path(n, 0));
      Check.due(0, "1: changes", () -> x.changes(n, 0, MOST, 0));
      Check.due(0, "1: changesAnew", () -> x.changesAnew(n, 0, MOST, 0));
      Check.due(NONE, "1: unlike", () -> x.unlike(n, 0));
      Check.refused(Check.INDEX, "1: time", () -> x.time(n, 0));
      Check.refused(Check.STATE, "1: off", () -> x.off(n, 0, 0));
    }
    for (int kind = AND; kind <= NOT; kind++) {
      int k = kind;
      Check.due(1, "1: cost", () -> x.cost(k, 1, 1));
    }
  }

  private void promise02Input() {
    for (int k = 0; k < 30; k++) {
      Check.due(k, "2: input", () -> x.input(2));
    }
    Check.refused(Check.STATE, "2: the 31st input", () -> x.input(2));
    ofNet(2, 0, 30);
    ofNet(2, 1, 30);
    Check.due(0, "2: input of another net", () -> x.input(3));
    Check.due(1, "2: gate behind it", () -> x.gate(3, NOT, 0, 0));
    Check.due(2, "2: input behind a gate", () -> x.input(3));
    for (int gate = 3; gate < 120; gate++) {
      x.gate(3, NOT, gate - 1, 0);
    }
    Check.refused(Check.STATE, "2: the 121st gate", () -> x.input(3));
    ofNet(3, 0, 120);
    ofNet(3, 1, 2);
    for (int net : NO_NETS) {
      Check.refused(Check.INDEX, "2: no such net", () -> x.input(net));
    }
  }

  private void promise03Gate() {
    inputs(1, 2);
    Check.due(2, "3: AND", () -> x.gate(1, AND, 0, 1));
    Check.due(3, "3: OR", () -> x.gate(1, OR, 0, 1));
    Check.due(4, "3: XOR", () -> x.gate(1, XOR, 0, 1));
    Check.due(5, "3: NOT, second too high", () -> x.gate(1, NOT, 0, Integer.MAX_VALUE));
    Check.due(6, "3: NOT, second too low", () -> x.gate(1, NOT, 1, Integer.MIN_VALUE));
    Check.due(7, "3: the same source twice", () -> x.gate(1, XOR, 4, 4));
    int[][] bits = {{0, 0, 0, 1, 1, 0}, {0, 1, 1, 0, 1, 0}, {0, 1, 1, 1, 0, 0}, {1, 1, 0, 0, 0, 0}};
    for (int number = 0; number < 4; number++) {
      for (int gate = 2; gate < 8; gate++) {
        bit(1, gate, number, bits[number][gate - 2]);
      }
    }
    Check.refused(Check.INDEX, "3: first is itself", () -> x.gate(1, AND, 8, 0));
    Check.refused(Check.INDEX, "3: second is itself", () -> x.gate(1, AND, 0, 8));
    Check.refused(Check.INDEX, "3: first below 0", () -> x.gate(1, AND, -1, 0));
    Check.refused(Check.INDEX, "3: second below 0", () -> x.gate(1, OR, 0, -1));
    Check.refused(Check.INDEX, "3: first of NOT", () -> x.gate(1, NOT, 8, 0));
    Check.refused(Check.INDEX, "3: kind 4", () -> x.gate(1, 4, 0, 0));
    Check.refused(Check.INDEX, "3: kind -1", () -> x.gate(1, -1, 0, 0));
    Check.refused(Check.INDEX, "3: a gate of another net", () -> x.gate(0, NOT, 0, 0));
    for (int net : NO_NETS) {
      Check.refused(Check.INDEX, "3: no such net", () -> x.gate(net, AND, 0, 0));
    }
    ofNet(1, 0, 8);
    for (int gate = 8; gate < 120; gate++) {
      x.gate(1, AND, 0, 1);
    }
    Check.refused(Check.STATE, "3: the 121st gate", () -> x.gate(1, AND, 0, 119));
    Check.refused(Check.INDEX, "3: index ahead of state, kind", () -> x.gate(1, 4, 0, 0));
    Check.refused(Check.INDEX, "3: index ahead of state, first", () -> x.gate(1, AND, 120, 0));
    Check.refused(Check.INDEX, "3: index ahead of state, second", () -> x.gate(1, AND, 0, 120));
    Check.refused(Check.STATE, "3: NOT in a full net", () -> x.gate(1, NOT, 0, 120));
    ofNet(1, 0, 120);
  }

  private void promise04Out() {
    inputs(0, 2);
    x.gate(0, NOT, 0, 0);
    Check.refused(Check.INDEX, "4: no such gate", () -> x.out(0, 3));
    Check.refused(Check.INDEX, "4: gate -1", () -> x.out(0, -1));
    for (int place = 0; place < 16; place++) {
      int gate = place % 3;
      Check.due(place, "4: out", () -> x.out(0, gate));
    }
    Check.refused(Check.STATE, "4: the 17th out", () -> x.out(0, 0));
    Check.refused(Check.INDEX, "4: index ahead of state", () -> x.out(0, 3));
    ofNet(0, 2, 16);
    value(0, 0, 0b0100_1001_0010_0100);
    value(0, 3, 0b1011_0110_1101_1011);
    for (int net : NO_NETS) {
      Check.refused(Check.INDEX, "4: no such net", () -> x.out(net, 0));
    }
  }

  private void promise05Adder() {
    int[][] gates = {
      {4, 11, 18, 25, 32, 39}, {4, 12, 20, 31, 39, 50}, {4, 12, 23, 34, 48, 62}
    };
    for (int form = 0; form <= 2; form++) {
      for (int width = 1; width <= 6; width++) {
        int f = form;
        int w = width;
        Check.due(gates[f][w - 1], "5: adder " + f + ", " + w, () -> x.adder(f, f, w));
        ofNet(f, 0, gates[f][w - 1]);
        ofNet(f, 1, 2 * w);
        ofNet(f, 2, w + 1);
        Check.due(0, "5: adder " + f + ", " + w + " is off", () -> x.off(f, GateLedger.PLUS, 0));
        x.clear(f);
      }
    }
    Check.refused(Check.ARGUMENT, "5: form -1", () -> x.adder(0, -1, 1));
    Check.refused(Check.ARGUMENT, "5: form 3", () -> x.adder(0, 3, 1));
    Check.refused(Check.ARGUMENT, "5: width 0", () -> x.adder(0, 0, 0));
    Check.refused(Check.ARGUMENT, "5: width 7", () -> x.adder(0, 2, 7));
    ofNet(0, 0, 0);
    x.input(0);
    Check.refused(Check.STATE, "5: a gate", () -> x.adder(0, 0, 1));
    Check.refused(Check.ARGUMENT, "5: argument ahead of state", () -> x.adder(0, 0, 7));
    ofNet(0, 0, 1);
    for (int net : NO_NETS) {
      Check.refused(Check.INDEX, "5: no such net", () -> x.adder(net, 9, 9));
    }
  }

  private void promise06Multiplier() {
    int[] gates = {3, 12, 36, 72};
    int[] outs = {1, 4, 6, 8};
    for (int width = 1; width <= 4; width++) {
      int w = width;
      Check.due(gates[w - 1], "6: multiplier " + w, () -> x.multiplier(3, w));
      ofNet(3, 0, gates[w - 1]);
      ofNet(3, 1, 2 * w);
      ofNet(3, 2, outs[w - 1]);
      Check.due(0, "6: multiplier " + w + " is off", () -> x.off(3, GateLedger.TIMES, 0));
      x.clear(3);
    }
    x.multiplier(0, 2);
    inputs(1, 4);
    gates(1, new int[][] {
      {AND, 0, 2}, {AND, 1, 2}, {AND, 0, 3}, {AND, 1, 3},
      {XOR, 5, 6}, {AND, 5, 6}, {XOR, 7, 9}, {AND, 7, 9}
    }, 4, 8, 10, 11);
    Check.due(NONE, "6: multiplier gate by gate", () -> x.unlike(0, 1));
    Check.refused(Check.ARGUMENT, "6: width 0", () -> x.multiplier(3, 0));
    Check.refused(Check.ARGUMENT, "6: width 5", () -> x.multiplier(3, 5));
    ofNet(3, 0, 0);
    Check.refused(Check.STATE, "6: a gate", () -> x.multiplier(1, 1));
    Check.refused(Check.ARGUMENT, "6: argument ahead of state", () -> x.multiplier(1, 5));
    ofNet(1, 0, 12);
    for (int net : NO_NETS) {
      Check.refused(Check.INDEX, "6: no such net", () -> x.multiplier(net, 9));
    }
  }

  private void promise07Clear() {
    x.adder(0, GateLedger.RIPPLE, 2);
    x.adder(1, GateLedger.RIPPLE, 2);
    x.cost(AND, 5, 6);
    x.stick(0, 0, 1);
    x.stick(0, 4, 1);
    Check.due(11, "7: clear", () -> x.clear(0));
    Check.due(0, "7: clear again", () -> x.clear(0));
    for (int what = 0; what <= 6; what++) {
      ofNet(0, what, 0);
    }
    ofNet(1, 0, 11);
    Check.refused(Check.INDEX, "7: no gate is left", () -> x.bit(0, 0, 0));
    Check.due(11, "7: made anew", () -> x.adder(0, GateLedger.RIPPLE, 2));
    Check.due(NONE, "7: no input sticks", () -> x.stick(0, 0, NONE));
    Check.due(NONE, "7: no gate sticks", () -> x.stick(0, 4, NONE));
    Check.due(5, "7: costs stay", () -> x.cost(AND, 1, 1));
    for (int net : NO_NETS) {
      Check.refused(Check.INDEX, "7: no such net", () -> x.clear(net));
    }
  }

  private void promise08Cost() {
    for (int net = 0; net < 2; net++) {
      inputs(net, 1);
      gates(net, new int[][] {{AND, 0, 0}, {OR, 1, 0}, {XOR, 2, 0}, {NOT, 3, 0}}, 4);
    }
    Check.due(1, "8: AND", () -> x.cost(AND, 9, 99));
    Check.due(9, "8: AND again", () -> x.cost(AND, 2, 10));
    Check.due(1, "8: OR", () -> x.cost(OR, 3, 20));
    Check.due(1, "8: XOR", () -> x.cost(XOR, 4, 30));
    Check.due(1, "8: NOT", () -> x.cost(NOT, 9, 0));
    for (int net = 0; net < 2; net++) {
      ofNet(net, 3, 60);
      ofNet(net, 4, 18);
    }
    Check.refused(Check.ARGUMENT, "8: delay 0", () -> x.cost(AND, 0, 1));
    Check.refused(Check.ARGUMENT, "8: delay 10", () -> x.cost(AND, 10, 1));
    Check.refused(Check.ARGUMENT, "8: area -1", () -> x.cost(AND, 1, -1));
    Check.refused(Check.ARGUMENT, "8: area 100", () -> x.cost(AND, 1, 100));
    Check.refused(Check.INDEX, "8: kind -1", () -> x.cost(-1, 0, 1));
    Check.refused(Check.INDEX, "8: kind 4", () -> x.cost(4, 1, 100));
    ofNet(0, 3, 60);
    ofNet(0, 4, 18);
    Check.due(2, "8: unchanged", () -> x.cost(AND, 1, 1));
  }

  private void promise09Stick() {
    inputs(0, 2);
    gates(0, new int[][] {{AND, 0, 1}, {NOT, 2, 0}}, 2, 3);
    Check.due(NONE, "9: at 1", () -> x.stick(0, 2, 1));
    value(0, 0, 1);
    Check.due(1, "9: at 0", () -> x.stick(0, 2, 0));
    value(0, 3, 2);
    Check.due(0, "9: not any more", () -> x.stick(0, 2, NONE));
    value(0, 3, 1);
    Check.due(NONE, "9: an input", () -> x.stick(0, 1, 1));
    value(0, 1, 1);
    Check.refused(Check.ARGUMENT, "9: bit 2", () -> x.stick(0, 1, 2));
    Check.refused(Check.ARGUMENT, "9: bit -2", () -> x.stick(0, 1, -2));
    Check.refused(Check.INDEX, "9: index ahead of argument", () -> x.stick(0, 4, 2));
    Check.refused(Check.INDEX, "9: gate -1", () -> x.stick(0, -1, 0));
    Check.due(1, "9: unchanged", () -> x.stick(0, 1, 1));
    ofNet(0, 4, 2);
    for (int net : NO_NETS) {
      Check.refused(Check.INDEX, "9: no such net", () -> x.stick(net, 0, 2));
    }
  }

  private void promise10Bit() {
    inputs(0, 1);
    x.gate(0, NOT, 0, 0);
    inputs(0, 29);
    bit(0, 0, 1, 1);
    bit(0, 1, 1, 0);
    bit(0, 2, 1, 0);
    bit(0, 2, 2, 1);
    bit(0, 30, 1 << 29, 1);
    bit(0, 30, (1 << 29) - 1, 0);
    bit(0, 30, MOST, 1);
    inputs(1, 1);
    bit(1, 0, MOST - 1, 0);
    Check.refused(Check.ARGUMENT, "10: number -1", () -> x.bit(0, 0, -1));
    Check.refused(Check.ARGUMENT, "10: number 2^30", () -> x.bit(0, 0, MOST + 1));
    Check.refused(Check.INDEX, "10: index ahead of argument", () -> x.bit(0, 31, -1));
    Check.refused(Check.INDEX, "10: gate -1", () -> x.bit(0, -1, 0));
    for (int net : NO_NETS) {
      Check.refused(Check.INDEX, "10: no such net", () -> x.bit(net, 0, -1));
    }
  }

  private void promise11And12Value() {
    inputs(0, 2);
    gates(0, new int[][] {{XOR, 0, 1}, {AND, 0, 1}});
    value(0, 3, 0);
    x.out(0, 2);
    x.out(0, 3);
    x.out(0, 2);
    value(0, 0, 0);
    value(0, 1, 5);
    value(0, 2, 5);
    value(0, 3, 2);
    value(0, MOST, 2);
    x.stick(0, 0, 1);
    value(0, 0, 5);
    x.stick(0, 2, 0);
    value(0, 0, 0);
    value(0, 2, 2);
    for (int place = 3; place < 16; place++) {
      x.out(0, 3);
    }
    value(0, 2, 0b1111_1111_1111_1010);
    for (int number : new int[] {-1, MOST + 1, Integer.MAX_VALUE, Integer.MIN_VALUE}) {
      Check.refused(Check.ARGUMENT, "11: value", () -> x.value(0, number));
      Check.refused(Check.ARGUMENT, "12: valueAnew", () -> x.valueAnew(0, number));
    }
    for (int net : NO_NETS) {
      Check.refused(Check.INDEX, "11: no such net", () -> x.value(net, -1));
      Check.refused(Check.INDEX, "12: no such net", () -> x.valueAnew(net, -1));
    }
    inputs(1, 1);
    for (int gate = 1; gate < 120; gate++) {
      x.gate(1, XOR, 0, gate - 1);
    }
    x.out(1, 119);
    value(1, 1, 0);
  }

  private void promise13OfNet() {
    inputs(0, 2);
    gates(0, new int[][] {{AND, 0, 0}, {NOT, 2, 1}, {OR, 0, 1}, {XOR, 2, 4}});
    x.cost(AND, 7, 10);
    x.cost(NOT, 1, 20);
    x.cost(OR, 2, 30);
    x.cost(XOR, 3, 40);
    int[] withoutOuts = {6, 2, 0, 100, 0, 3, 4};
    int[] withOuts = {6, 2, 3, 100, 8, 5, 2};
    for (int what = 0; what <= 6; what++) {
      ofNet(0, what, withoutOuts[what]);
    }
    x.out(0, 2);
    x.out(0, 3);
    x.out(0, 2);
    withOuts[5] = 4;
    for (int what = 0; what <= 6; what++) {
      ofNet(0, what, withOuts[what]);
    }
    x.stick(0, 2, 1);
    for (int what = 0; what <= 6; what++) {
      ofNet(0, what, withOuts[what]);
    }
    inputs(1, 1);
    ofNet(1, 5, 0);
    ofNet(1, 6, 0);
    x.out(1, 0);
    ofNet(1, 4, 0);
    ofNet(1, 5, 1);
    Check.refused(Check.ARGUMENT, "13: what -1", () -> x.ofNet(0, -1));
    Check.refused(Check.ARGUMENT, "13: what 7", () -> x.ofNet(0, 7));
    for (int net : NO_NETS) {
      Check.refused(Check.INDEX, "13: no such net", () -> x.ofNet(net, 7));
    }
  }

  private void promise14Time() {
    inputs(0, 2);
    gates(0, new int[][] {{AND, 0, 1}, {NOT, 2, 1}, {OR, 3, 0}, {XOR, 2, 4}, {OR, 1, 5}});
    x.cost(AND, 2, 1);
    x.cost(OR, 3, 1);
    x.cost(XOR, 4, 1);
    x.cost(NOT, 9, 1);
    x.stick(0, 3, 0);
    int[] times = {0, 0, 2, 11, 14, 18, 21};
    for (int gate = 0; gate < times.length; gate++) {
      int g = gate;
      Check.due(times[g], "14: time of " + g, () -> x.time(0, g));
    }
    Check.refused(Check.INDEX, "14: gate 7", () -> x.time(0, 7));
    Check.refused(Check.INDEX, "14: gate -1", () -> x.time(0, -1));
    for (int net : NO_NETS) {
      Check.refused(Check.INDEX, "14: no such net", () -> x.time(net, 0));
    }
  }

  private void promise15Path() {
    inputs(0, 2);
    gates(0, new int[][] {{AND, 0, 1}, {OR, 1, 0}, {XOR, 2, 3}, {XOR, 3, 2}, {NOT, 1, 0}});
    path("15: without outs", 0, NONE);
    x.out(0, 6);
    path("15: NOT", 0, 6, 1, NONE);
    x.out(0, 5);
    x.out(0, 4);
    path("15: the first of two outs, the first of two sources", 0, 5, 3, 1, NONE, NONE);
    x.cost(AND, 2, 1);
    path("15: the second source", 0, 5, 2, 0, NONE);
    x.cost(NOT, 9, 1);
    path("15: another out", 0, 6, 1, NONE);
    x.stick(0, 6, 1);
    path("15: a gate that sticks", 0, 6, 1, NONE);
    Check.due(NONE, "15: far behind", () -> x.path(0, Integer.MAX_VALUE));
    inputs(1, 1);
    for (int gate = 1; gate < 120; gate++) {
      x.gate(1, NOT, gate - 1, 0);
    }
    x.out(1, 119);
    for (int place = 0; place < 120; place++) {
      int p = place;
      Check.due(119 - p, "15: a long path", () -> x.path(1, p));
    }
    Check.due(NONE, "15: behind a long path", () -> x.path(1, 120));
    inputs(2, 1);
    x.out(2, 0);
    path("15: an input as out", 2, 0, NONE);
    Check.refused(Check.INDEX, "15: place -1", () -> x.path(0, -1));
    Check.refused(Check.INDEX, "15: least place", () -> x.path(3, Integer.MIN_VALUE));
    for (int net : NO_NETS) {
      Check.refused(Check.INDEX, "15: no such net", () -> x.path(net, 0));
    }
  }

  private void promise16And17Changes() {
    inputs(0, 1);
    gates(0, new int[][] {{NOT, 0, 0}, {AND, 0, 1}, {NOT, 2, 0}});
    changes(0, 0, 1, 5, 3, 0);
    changes(0, 1, 0, 1, 1, 0);
    changes(0, 1, 1, 0, 0, 0);
    changes(0, 2, 4, 0, 0, 0);
    x.out(0, 2);
    x.out(0, 0);
    x.out(0, 2);
    changes(0, 0, 1, 5, 3, 2);
    changes(0, 0, MOST, 5, 3, 2);
    x.cost(NOT, 9, 0);
    x.cost(AND, 2, 0);
    changes(0, 0, 1, 5, 20, 2);
    x.stick(0, 1, 1);
    changes(0, 0, 1, 2, 11, 1);
    x.stick(0, 0, 0);
    changes(0, 0, 1, 0, 0, 0);
    for (int wrong : new int[] {-1, MOST + 1}) {
      refusedChanges(Check.ARGUMENT, 0, wrong, 0, 0);
      refusedChanges(Check.ARGUMENT, 0, 0, wrong, 0);
      for (int net : NO_NETS) {
        refusedChanges(Check.INDEX, net, wrong, wrong, wrong);
      }
    }
    refusedChanges(Check.ARGUMENT, 0, 0, 1, -1);
    refusedChanges(Check.ARGUMENT, 0, 0, 1, 3);
  }

  private void promise16And17LongestChanges() {
    for (int kind = AND; kind <= NOT; kind++) {
      x.cost(kind, 9, 0);
    }
    inputs(0, 1);
    for (int gate = 1; gate < 120; gate++) {
      x.gate(0, NOT, gate - 1, 0);
    }
    x.out(0, 64);
    changes(0, 0, 1, 119, 119 * 9, 1);
    x.clear(0);
    inputs(0, 1);
    x.gate(0, NOT, 0, 0);
    for (int gate = 2; gate < 120; gate++) {
      x.gate(0, XOR, gate - 1, 0);
    }
    changes(0, 0, 1, 119 * 120 / 2, 119 * 9, 0);
  }

  private void promise18Off() {
    inputs(0, 2);
    off(0, 0, 3, 2, 4, 1);
    off(0, 1, 1, 1, 1, 3);
    x.gate(0, AND, 0, 1);
    x.out(0, 2);
    off(0, 0, 3, 1, 3, 1);
    off(0, 1, 0, 0, 0, NONE);
    x.stick(0, 2, 1);
    off(0, 0, 2, 1, 2, 0);
    off(0, 1, 3, 1, 3, 0);
    inputs(1, 12);
    off(1, 1, 63 * 63, 63 * 63, 2016 * 2016, 65);
    off(1, 0, 4095, 126, 2 * 64 * 2016, 1);
    for (int place = 0; place < 16; place++) {
      x.out(1, 0);
    }
    x.stick(1, 0, 1);
    off(1, 0, 4096, 65535, 4096 * 65535 - 2 * 64 * 2016, 0);
    for (int inputs = 0; inputs <= 30; inputs++) {
      boolean right = inputs >= 2 && inputs <= 12 && inputs % 2 == 0;
      String due = right ? "0" : Check.STATE.getName();
      Check.same("18: inputs " + inputs, Check.outcome(() -> x.off(2, 0, 0) * 0), due);
      Check.same("19: inputs " + inputs, Check.outcome(() -> x.unseen(2, 0, 2) * 0), due);
      if (inputs < 30) {
        x.input(2);
      }
    }
    for (int wrong : new int[] {-1, 2}) {
      Check.refused(Check.ARGUMENT, "18: operation", () -> x.off(0, wrong, 0));
      Check.refused(Check.ARGUMENT, "18: argument ahead of state", () -> x.off(3, wrong, 0));
    }
    Check.refused(Check.ARGUMENT, "18: what -1", () -> x.off(0, 0, -1));
    Check.refused(Check.ARGUMENT, "18: what 4", () -> x.off(3, 0, 4));
    for (int net : NO_NETS) {
      Check.refused(Check.INDEX, "18: no such net", () -> x.off(net, 9, 9));
    }
  }

  private void promise19Unseen() {
    inputs(0, 4);
    unseen(0, 0, 2, 7);
    unseen(0, 0, 3, 5);
    unseen(0, 0, 6, 1);
    unseen(0, 0, 7, 0);
    unseen(0, 1, 3, 5);
    unseen(0, 1, 9, 1);
    unseen(0, 1, 99, 0);
    x.adder(1, GateLedger.RIPPLE, 6);
    unseen(1, 0, 2, 0);
    x.stick(1, 12, 1);
    unseen(1, 0, 2, 0);
    x.stick(1, 12, NONE);
    x.stick(1, 13, 0);
    unseen(1, 0, 2, 1024);
    unseen(1, 0, 3, 0);
    for (int wrong : new int[] {-1, 2}) {
      Check.refused(Check.ARGUMENT, "19: operation", () -> x.unseen(0, wrong, 2));
      Check.refused(Check.ARGUMENT, "19: argument ahead of state", () -> x.unseen(3, wrong, 2));
    }
    for (int wrong : new int[] {1, 0, -1, 100, Integer.MIN_VALUE}) {
      Check.refused(Check.ARGUMENT, "19: m", () -> x.unseen(0, 0, wrong));
      Check.refused(Check.ARGUMENT, "19: m ahead of state", () -> x.unseen(3, 0, wrong));
    }
    Check.refused(Check.STATE, "19: no inputs", () -> x.unseen(3, 0, 99));
    for (int net : NO_NETS) {
      Check.refused(Check.INDEX, "19: no such net", () -> x.unseen(net, 9, 0));
    }
  }

  private void promise20Unlike() {
    for (int net = 0; net < 2; net++) {
      inputs(net, 12);
      x.gate(net, AND, 11, 10);
      x.gate(net, AND, 9, 12);
      x.out(net, 13 - net);
    }
    unlike(0, 0, NONE);
    unlike(0, 1, 3072);
    unlike(1, 0, 3072);
    x.stick(1, 9, 1);
    x.stick(0, 9, 1);
    unlike(0, 1, NONE);
    x.stick(0, 9, NONE);
    x.out(1, 8);
    unlike(0, 1, 256);
    x.stick(1, 8, 0);
    unlike(0, 1, 3072);
    x.stick(1, 12, 1);
    unlike(0, 1, 0);
    inputs(2, 1);
    Check.refused(Check.STATE, "20: 1 input and 12", () -> x.unlike(2, 0));
    Check.refused(Check.STATE, "20: 12 inputs and 1", () -> x.unlike(0, 2));
    unlike(3, 3, NONE);
    Check.refused(Check.STATE, "20: none and 1", () -> x.unlike(3, 2));
    inputs(3, 1);
    unlike(3, 2, NONE);
    x.gate(2, NOT, 0, 0);
    x.out(2, 1);
    x.out(3, 0);
    unlike(3, 2, 0);
    x.clear(3);
    inputs(3, 1);
    gates(3, new int[][] {{XOR, 0, 0}}, 1);
    unlike(3, 2, 0);
    x.stick(2, 1, 0);
    unlike(3, 2, NONE);
    inputs(2, 11);
    inputs(3, 11);
    unlike(3, 2, NONE);
    inputs(2, 1);
    Check.refused(Check.STATE, "20: 13 inputs, the same net", () -> x.unlike(2, 2));
    inputs(3, 1);
    Check.refused(Check.STATE, "20: 13 inputs", () -> x.unlike(2, 3));
    for (int net : NO_NETS) {
      Check.refused(Check.INDEX, "20: no such net", () -> x.unlike(net, 2));
      Check.refused(Check.INDEX, "20: no such other net", () -> x.unlike(2, net));
    }
  }

  private void promise21Digit() {
    digits(0);
    digits(1, 1);
    digits(2, -2, 1);
    digits(3, -1, 1);
    digits(6, -2, 2);
    digits(7, -1, 2);
    digits(8, 0, -2, 1);
    digits(1 << 30, 0, 0, 0, 0, 0, 0, 0, 0, 0, 0, 0, 0, 0, 0, 0, 1);
    digits(Integer.MAX_VALUE, -1, 0, 0, 0, 0, 0, 0, 0, 0, 0, 0, 0, 0, 0, 0, 2);
    for (int number = 0; number < 3000; number += 7) {
      int n = number << 19 ^ number;
      long sum = 0;
      x = new GateLedger();
      for (int place = 15; place >= 0; place--) {
        sum = 4 * sum + x.digit(n, place);
      }
      Check.same("21: digits of " + n, String.valueOf(sum), String.valueOf(n));
    }
    Check.refused(Check.ARGUMENT, "21: number -1", () -> x.digit(-1, 15));
    Check.refused(Check.ARGUMENT, "21: least number", () -> x.digit(Integer.MIN_VALUE, 0));
    Check.refused(Check.INDEX, "21: place 16", () -> x.digit(0, 16));
    Check.refused(Check.INDEX, "21: place -1", () -> x.digit(0, -1));
    Check.refused(Check.INDEX, "21: index ahead of argument", () -> x.digit(-1, 16));
  }

  // ---- what they share

  private void inputs(int net, int count) {
    for (int k = 0; k < count; k++) {
      x.input(net);
    }
  }

  private void gates(int net, int[][] gates, int... outs) {
    for (int[] gate : gates) {
      x.gate(net, gate[0], gate[1], gate[2]);
    }
    for (int out : outs) {
      x.out(net, out);
    }
  }

  private void ofNet(int net, int what, int due) {
    Check.due(due, "ofNet " + net + ", " + what, () -> x.ofNet(net, what));
  }

  private void bit(int net, int gate, int number, int due) {
    Check.due(due, "bit " + gate + " for " + number, () -> x.bit(net, gate, number));
  }

  private void value(int net, int number, int due) {
    Check.due(due, "value for " + number, () -> x.value(net, number));
    Check.due(due, "valueAnew for " + number, () -> x.valueAnew(net, number));
  }

  private void path(String what, int net, int... gates) {
    for (int place = 0; place < gates.length; place++) {
      int p = place;
      Check.due(gates[p], what + ", place " + p, () -> x.path(net, p));
    }
  }

  private void changes(int net, int from, int to, int... due) {
    for (int what = 0; what <= 2; what++) {
      int w = what;
      String call = " from " + from + " to " + to + ", " + w;
      Check.due(due[w], "changes" + call, () -> x.changes(net, from, to, w));
      Check.due(due[w], "changesAnew" + call, () -> x.changesAnew(net, from, to, w));
    }
  }

  private void refusedChanges(Class<?> due, int net, int from, int to, int what) {
    Check.refused(due, "16: changes", () -> x.changes(net, from, to, what));
    Check.refused(due, "17: changesAnew", () -> x.changesAnew(net, from, to, what));
  }

  private void off(int net, int operation, int... due) {
    for (int what = 0; what <= 3; what++) {
      int w = what;
      Check.due(due[w], "18: off " + operation + ", " + w, () -> x.off(net, operation, w));
    }
  }

  private void unseen(int net, int operation, int m, int due) {
    Check.due(due, "19: unseen " + operation + " by " + m, () -> x.unseen(net, operation, m));
  }

  private void unlike(int net, int other, int due) {
    Check.due(due, "20: unlike " + net + ", " + other, () -> x.unlike(net, other));
  }

  private void digits(int number, int... due) {
    for (int place = 0; place <= 15; place++) {
      int p = place;
      int digit = p < due.length ? due[p] : 0;
      Check.due(digit, "21: digit " + p + " of " + number, () -> x.digit(number, p));
    }
  }
}
