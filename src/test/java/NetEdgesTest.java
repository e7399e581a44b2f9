/** The edges of nets that are told gate by gate: promises 1 to 4 and 7 to 9, and the terms of nets. */
public final class NetEdgesTest extends Edges {
  public static void main(String[] args) {
    nets();
    gatesInputsOuts();
    bitsAndValues();
    promise01NewObject();
    promise02Input();
    promise02FullOfGatesOrInputs();
    promise03Kinds();
    promise03Sources();
    promise03Full();
    promise04Out();
    promise04Full();
    promise07Clear();
    promise07WhatStays();
    promise08Cost();
    promise08Refused();
    promise09Stick();
    promise09Refused();
    Document.allNamed("NetEdgesTest");
    Check.end("NetEdgesTest");
  }

  // ---- terms

  private static void nets() {
    of("Nets", "There are the NETS 0 to 3, each without gates at first.");
    for (int net = 0; net < 4; net++) {
      withoutGates(net);
    }
    for (int net : NO_NETS) {
      Check.refused(Check.INDEX, "ofNet of " + net, () -> x.ofNet(net, 0));
    }
  }

  private static void gatesInputsOuts() {
    of("Nets", "The GATES of a net are numbered from 0 as they come, at most 120.");
    Check.due(0, "the first gate", () -> x.input(3));
    for (int gate = 1; gate < 119; gate++) {
      int g = gate;
      Check.due(g, "the gate " + g, () -> x.gate(3, NOT, g - 1, 0));
    }
    Check.due(119, "the last gate", () -> x.input(3));
    Check.refused(Check.STATE, "an input too many", () -> x.input(3));
    Check.refused(Check.STATE, "a gate too many", () -> x.gate(3, AND, 0, 119));
    counts(3, 120, 2, 0);

    of("Nets", "A gate is an INPUT, of which a net has at most 30");
    inputs(x, 0, 29);
    Check.due(29, "the 30th input", () -> x.input(0));
    Check.refused(Check.STATE, "the 31st input", () -> x.input(0));
    counts(0, 30, 30, 0);

    of("Nets", "which are gates with lower numbers, perhaps the same; or NOT, with one source");
    inputs(x, 0, 1);
    gate(0, AND, 0, 0);
    gate(0, OR, 1, 1);
    gate(0, XOR, 2, 2);
    gate(0, NOT, 2, 2);
    int[] bits = {1, 1, 1, 0, 0};
    for (int gate = 0; gate < bits.length; gate++) {
      bit(0, gate, 1, bits[gate]);
      bit(0, gate, 0, gate == 4 ? 1 : 0);
    }
    Check.refused(Check.INDEX, "a gate and itself", () -> x.gate(0, AND, 5, 0));
    Check.refused(Check.INDEX, "NOT of itself", () -> x.gate(0, NOT, 5, 0));

    of("Nets", "The OUTS of a net are gates, told one behind the other, at most 16; a gate may be "
        + "told several times.");
    inputs(x, 0, 1);
    for (int place = 0; place < 16; place++) {
      int p = place;
      Check.due(p, "the out " + p, () -> x.out(0, 0));
    }
    Check.refused(Check.STATE, "the 17th out", () -> x.out(0, 0));
    counts(0, 1, 1, 16);
    value(0, 1, 65535);
  }

  private static void bitsAndValues() {
    of("Nets", "if the gate sticks at 0 or 1, it is that; otherwise the bit of the k-th INPUT");
    inputs(x, 0, 1);
    gate(0, NOT, 0, 0);
    inputs(x, 0, 29);
    for (int k = 0; k < 30; k++) {
      int gate = k == 0 ? 0 : k + 1;
      bit(0, gate, 1 << k, 1);
      bit(0, gate, MOST_NUMBER - (1 << k), 0);
    }
    bit(0, 1, MOST_NUMBER, 0);
    bit(0, 1, MOST_NUMBER - 1, 1);
    x.stick(0, 30, 0);
    x.stick(0, 0, 1);
    bit(0, 30, MOST_NUMBER, 0);
    bit(0, 0, 0, 1);
    bit(0, 1, 0, 0);
    x.stick(0, 1, 1);
    bit(0, 1, 0, 1);

    of("Nets", "The VALUE of a net for a number is the sum of 2 to the power of p over all outs");
    inputs(x, 1, 30);
    value(1, MOST_NUMBER, 0);
    for (int place = 0; place < 16; place++) {
      x.out(1, 29 - place);
    }
    value(1, 0, 0);
    for (int place = 0; place < 16; place++) {
      value(1, 1 << 29 - place, 1 << place);
    }
    value(1, (1 << 14) - 1, 0);
    value(1, MOST_NUMBER, 65535);
  }

  // ---- promises

  private static void promise01NewObject() {
    of(1, "Four nets without gates.");
    for (int net = 0; net < 4; net++) {
      withoutGates(net);
      counts(net, 0, 0, 0);
    }
    for (int net : NO_NETS) {
      Check.refused(Check.INDEX, "input of " + net, () -> x.input(net));
    }
    of(1, "`GateLedger()`");
    inputs(x, 0, 1);
    GateLedger other = new GateLedger();
    Check.due(1, "the gates of the first object", () -> x.ofNet(0, 0));
    Check.due(0, "the gates of the other object", () -> other.ofNet(0, 0));
  }

  private static void promise02Input() {
    of(2, "Adds an input.");
    for (int net = 0; net < 4; net++) {
      int n = net;
      Check.due(0, "input of the net " + n, () -> x.input(n));
      counts(n, 1, 1, 0);
    }
    of(2, "Returns the number of the gate.");
    Check.due(0, "the first gate", () -> x.input(2));
    Check.due(1, "the second gate", () -> x.input(2));
    chain(x, 2, 119);
    Check.due(119, "the last gate", () -> x.input(2));
    of(2, "`net`: a net");
    Check.due(0, "the least net", () -> x.input(0));
    Check.due(0, "the greatest net", () -> x.input(3));
    noSuchNet((l, net) -> l.input(net));
    of(2, "if there is no such net");
    noSuchNet((l, net) -> l.input(net));
    for (int net : NO_NETS) {
      Later.refuses(Check.INDEX, "all nets are full, net " + net, Edges::allFull, l -> l.input(net));
    }
  }

  private static void promise02FullOfGatesOrInputs() {
    of(2, "if it has 120 gates, or 30 inputs");
    inputs(x, 0, 29);
    Check.due(29, "29 inputs: one more", () -> x.input(0));
    Later.refuses(Check.STATE, "30 inputs", l -> inputs(l, 0, 30), l -> l.input(0));
    Later.refuses(Check.STATE, "30 inputs behind a gate", l -> {
      l.input(1);
      l.gate(1, NOT, 0, 0);
      inputs(l, 1, 29);
    }, l -> l.input(1));
    inputs(x, 1, 1);
    chain(x, 1, 119);
    Check.due(119, "119 gates: one more", () -> x.input(1));
    Later.refuses(Check.STATE, "120 gates, 1 input", l -> {
      l.input(2);
      chain(l, 2, 120);
    }, l -> l.input(2));
    Later.refuses(Check.STATE, "120 gates, 29 inputs", l -> {
      inputs(l, 2, 29);
      chain(l, 2, 120);
    }, l -> l.input(2));
    Later.refuses(Check.STATE, "120 gates, 30 inputs", l -> full(l, 3), l -> l.input(3));
    Check.due(30, "30 inputs: a gate, but", () -> x.gate(0, NOT, 29, 0));
    Check.due(0, "another net has room", () -> x.input(3));
    x.clear(0);
    Check.due(0, "room again", () -> x.input(0));
  }

  private static void promise03Kinds() {
    of(3, "Adds a gate.");
    inputs(x, 0, 2);
    Check.due(2, "AND", () -> x.gate(0, AND, 0, 1));
    counts(0, 3, 2, 0);
    of(3, "`net`: a net");
    for (int net = 0; net < 4; net++) {
      int n = net;
      x.input(n);
      Check.due(1, "gate of the net " + n, () -> x.gate(n, AND, 0, 0));
    }
    noSuchNet((l, net) -> l.gate(net, AND, 0, 0));
    of(3, "`kind`: AND to NOT");
    int[] truth = {0b1000, 0b1110, 0b0110, 0b0101};
    inputs(x, 0, 2);
    for (int kind = 0; kind <= 3; kind++) {
      int k = kind;
      Check.due(2 + k, "kind " + k, () -> x.gate(0, k, 0, 1));
      for (int number = 0; number < 4; number++) {
        bit(0, 2 + k, number, truth[k] >> number & 1);
      }
    }
    for (int kind : new int[] {-1, 4, LEAST, GREATEST}) {
      Later.refuses(Check.INDEX, "kind " + kind, Edges::some, l -> l.gate(0, kind, 0, 1));
    }
    of(3, "Returns the number of the gate.");
    inputs(x, 1, 1);
    for (int gate = 1; gate < 120; gate++) {
      int g = gate;
      Check.due(g, "gate " + g, () -> x.gate(1, XOR, g - 1, 0));
    }
  }

  private static void promise03Sources() {
    of(3, "`first`: a gate of the net");
    for (int kind = AND; kind <= NOT; kind++) {
      int k = kind;
      x.clear(0);
      inputs(x, 0, 2);
      Check.due(2, "first is 0", () -> x.gate(0, k, 0, 1));
      Check.due(3, "first is the last gate", () -> x.gate(0, k, 2, 1));
      for (int first : new int[] {-1, 11, 12, 119, 120, LEAST, GREATEST}) {
        Later.refuses(Check.INDEX, "kind " + k + ", first " + first, Edges::some,
            l -> l.gate(0, k, first, 1));
      }
      Later.refuses(Check.INDEX, "a net without gates, kind " + k, Edges::empty,
          l -> l.gate(3, k, 0, 0));
      Later.refuses(Check.INDEX, "a gate of another net", Edges::some, l -> l.gate(2, k, 2, 0));
    }

    of(3, "`second`: a gate of the net; counts for nothing with NOT, also if there is no such gate");
    for (int kind = AND; kind <= XOR; kind++) {
      int k = kind;
      x.clear(0);
      inputs(x, 0, 2);
      Check.due(2, "second is 0", () -> x.gate(0, k, 1, 0));
      Check.due(3, "second is the last gate", () -> x.gate(0, k, 1, 2));
      for (int second : new int[] {-1, 11, 12, 119, 120, LEAST, GREATEST}) {
        Later.refuses(Check.INDEX, "kind " + k + ", second " + second, Edges::some,
            l -> l.gate(0, k, 1, second));
      }
    }
    x.clear(0);
    inputs(x, 0, 2);
    int[] seconds = {0, 1, -1, 7, 8, 119, 120, LEAST, GREATEST};
    for (int k = 0; k < seconds.length; k++) {
      int second = seconds[k];
      int due = 2 + k;
      Check.due(due, "NOT, second " + second, () -> x.gate(0, NOT, 0, second));
      bit(0, due, 1, 0);
      bit(0, due, 2, 1);
      time(0, due, 1);
    }
    x.out(0, 3);
    ofNet(0, 5, seconds.length);
    path(0, 3, 0);
  }

  private static void promise03Full() {
    of(3, "if there is no such net, kind or gate");
    noSuchNet((l, net) -> l.gate(net, 4, -1, -1));
    Later.refuses(Check.INDEX, "no kind and no gates", Edges::some, l -> l.gate(0, 4, -1, -1));
    Later.refuses(Check.INDEX, "no first, no second", Edges::some, l -> l.gate(0, OR, 11, 11));
    Later.refuses(Check.INDEX, "NOT, no first, no second", Edges::some, l -> l.gate(0, NOT, 11, 11));
    Later.refuses(Check.INDEX, "kind 4 is no NOT", Edges::some, l -> l.gate(0, 4, 0, 0));

    of(3, "if it has 120 gates");
    inputs(x, 0, 30);
    chain(x, 0, 119);
    Check.due(119, "119 gates: one more", () -> x.gate(0, AND, 118, 118));
    for (int kind = AND; kind <= NOT; kind++) {
      int k = kind;
      Later.refuses(Check.STATE, "120 gates, kind " + k, l -> full(l, 0), l -> l.gate(0, k, 0, 119));
    }
    Later.refuses(Check.STATE, "NOT without second", l -> full(l, 1), l -> l.gate(1, NOT, 119, 120));
    Later.refuses(Check.INDEX, "also no kind", l -> full(l, 2), l -> l.gate(2, 4, 0, 0));
    Later.refuses(Check.INDEX, "also kind -1", l -> full(l, 2), l -> l.gate(2, -1, 0, 0));
    Later.refuses(Check.INDEX, "also no first", l -> full(l, 3), l -> l.gate(3, NOT, 120, 0));
    Later.refuses(Check.INDEX, "also first -1", l -> full(l, 3), l -> l.gate(3, AND, -1, 0));
    Later.refuses(Check.INDEX, "also no second", l -> full(l, 3), l -> l.gate(3, XOR, 0, 120));
    Later.refuses(Check.INDEX, "also second -1", l -> full(l, 3), l -> l.gate(3, OR, 0, -1));
    Later.refuses(Check.INDEX, "also no net", Edges::allFull, l -> l.gate(4, AND, 0, 0));
    Check.due(0, "another net has room", () -> x.input(1));
    Check.due(1, "for a gate too", () -> x.gate(1, NOT, 0, 0));
  }

  private static void promise04Out() {
    of(4, "Tells an out.");
    inputs(x, 0, 1);
    Check.due(0, "an input as out", () -> x.out(0, 0));
    counts(0, 1, 1, 1);
    value(0, 1, 1);
    of(4, "`net`: a net");
    for (int net = 0; net < 4; net++) {
      int n = net;
      x.input(n);
      Check.due(0, "out of the net " + n, () -> x.out(n, 0));
    }
    noSuchNet((l, net) -> l.out(net, 0));
    of(4, "`gate`: a gate of it");
    inputs(x, 0, 30);
    chain(x, 0, 120);
    Check.due(0, "the least gate", () -> x.out(0, 0));
    Check.due(1, "the greatest gate", () -> x.out(0, 119));
    for (int gate : new int[] {-1, 120, LEAST, GREATEST}) {
      Later.refuses(Check.INDEX, "gate " + gate + " of 120", l -> {
        l.input(2);
        chain(l, 2, 120);
      }, l -> l.out(2, gate));
    }
    of(4, "Returns its place.");
    inputs(x, 2, 1);
    for (int place = 0; place < 16; place++) {
      int p = place;
      Check.due(p, "place " + p, () -> x.out(2, 0));
    }
    of(4, "if there is no such net or gate");
    noSuchNet((l, net) -> l.out(net, -1));
    for (int gate : new int[] {-1, 11, 12, LEAST, GREATEST}) {
      Later.refuses(Check.INDEX, "gate " + gate + " of 11", Edges::some, l -> l.out(0, gate));
    }
    Later.refuses(Check.INDEX, "a net without gates", Edges::some, l -> l.out(3, 0));
    Later.refuses(Check.INDEX, "a net whose gates are gone", l -> {
      l.multiplier(0, 2);
      l.clear(0);
    }, l -> l.out(0, 0));
  }

  private static void promise04Full() {
    of(4, "if there are 16");
    inputs(x, 0, 1);
    outs(x, 0, 0, 15);
    Check.due(15, "15 outs: one more", () -> x.out(0, 0));
    Later.refuses(Check.STATE, "16 outs", l -> full(l, 0), l -> l.out(0, 119));
    Later.refuses(Check.STATE, "16 outs of one gate", l -> {
      l.input(1);
      outs(l, 1, 0, 16);
    }, l -> l.out(1, 0));
    Later.refuses(Check.STATE, "7 outs of an adder, 9 more", l -> {
      l.adder(2, SPREAD, 6);
      outs(l, 2, 3, 9);
    }, l -> l.out(2, 1));
    Later.refuses(Check.INDEX, "16 outs, and no such gate", l -> full(l, 0), l -> l.out(0, 120));
    Later.refuses(Check.INDEX, "16 outs, and gate -1", l -> full(l, 0), l -> l.out(0, -1));
    Later.refuses(Check.INDEX, "16 outs, and no such net", Edges::allFull, l -> l.out(4, 0));
    Later.refuses(Check.INDEX, "16 outs, and net -1", Edges::allFull, l -> l.out(-1, 0));
    x.input(3);
    Check.due(0, "another net has room", () -> x.out(3, 0));
    Check.due(1, "a net with 16 outs has room for gates", () -> x.gate(0, NOT, 0, 0));
  }

  private static void promise07Clear() {
    of(7, "Takes all gates and outs of a net away.");
    full(x, 1);
    for (int gate = 0; gate < 120; gate++) {
      x.stick(1, gate, 1);
    }
    x.clear(1);
    withoutGates(1);
    inputs(x, 1, 30);
    for (int gate = 30; gate < 120; gate++) {
      x.gate(1, AND, 29, gate - 1);
    }
    value(1, MOST_NUMBER, 0);
    outs(x, 1, 119, 16);
    counts(1, 120, 30, 16);
    value(1, MOST_NUMBER, 65535);
    value(1, MOST_NUMBER >> 1, 0);
    stick(1, 0, NONE, NONE);
    stick(1, 119, NONE, NONE);

    of(7, "`net`: a net");
    for (int net = 0; net < 4; net++) {
      int n = net;
      x.multiplier(n, 1);
      Check.due(3, "clear of the net " + n, () -> x.clear(n));
      withoutGates(n);
    }
    noSuchNet((l, net) -> l.clear(net));

    of(7, "Returns how many gates it had.");
    Check.due(0, "no gates", () -> x.clear(0));
    x.input(0);
    Check.due(1, "one gate", () -> x.clear(0));
    Check.due(0, "no gates again", () -> x.clear(0));
    full(x, 0);
    Check.due(120, "120 gates", () -> x.clear(0));
    x.adder(0, JUMP, 6);
    Check.due(62, "an adder", () -> x.clear(0));

    of(7, "if there is no such net");
    for (int net : NO_NETS) {
      Later.refuses(Check.INDEX, "full nets, net " + net, Edges::allFull, l -> l.clear(net));
    }
  }

  private static void promise07WhatStays() {
    of(7, "Takes all gates and outs of a net away.");
    some(x);
    x.clear(0);
    counts(1, 12, 4, 4);
    counts(2, 2, 1, 2);
    stick(1, 5, NONE, 1);
    Check.due(11, "an adder is made anew", () -> x.adder(0, RIPPLE, 2));
    stick(0, 2, NONE, NONE);
    stick(0, 6, NONE, NONE);
    off(0, PLUS, 0, 0, 0, NONE);
    cost(AND, 1, 1, 2);
    cost(OR, 1, 1, 3);
    cost(XOR, 1, 1, 4);
    cost(NOT, 1, 1, 9);
  }

  private static void promise08Cost() {
    of(8, "Sets the delay and the area of a kind.");
    for (int net = 0; net < 4; net++) {
      x.input(net);
      x.gate(net, net, 0, 0);
      x.out(net, 1);
    }
    for (int kind = AND; kind <= NOT; kind++) {
      x.cost(kind, 2 + kind, 90 + kind);
      for (int net = 0; net < 4; net++) {
        ofNet(net, 3, net <= kind ? 90 + net : 1);
        ofNet(net, 4, net <= kind ? 2 + net : 1);
      }
    }
    of(8, "`kind`: AND to NOT");
    cost(AND, 2, 2, 1);
    cost(NOT, 3, 3, 1);
    cost(OR, 4, 4, 1);
    cost(XOR, 5, 5, 1);
    for (int kind : new int[] {-1, 4, LEAST, GREATEST}) {
      Later.refuses(Check.INDEX, "kind " + kind, Edges::some, l -> l.cost(kind, 5, 50));
    }
    of(8, "`delay`: 1 to 9");
    for (int kind = AND; kind <= NOT; kind++) {
      int k = kind;
      cost(k, 9, 1, 1);
      cost(k, 1, 1, 9);
      cost(k, 1, 1, 1);
      for (int delay : new int[] {0, 10, -1, LEAST, GREATEST}) {
        Later.refuses(Check.ARGUMENT, "delay " + delay, Edges::some, l -> l.cost(k, delay, 50));
      }
    }
    of(8, "`area`: 0 to 99");
    x.input(0);
    for (int kind = AND; kind <= NOT; kind++) {
      int k = kind;
      gate(0, k, 0, 0);
      cost(k, 1, 99, 1);
      ofNet(0, 3, 99);
      cost(k, 1, 0, 1);
      ofNet(0, 3, 0);
      for (int area : new int[] {-1, 100, LEAST, GREATEST}) {
        Later.refuses(Check.ARGUMENT, "area " + area, Edges::some, l -> l.cost(k, 5, area));
      }
    }
    of(8, "Returns the delay before.");
    cost(OR, 7, 3, 1);
    cost(OR, 7, 4, 7);
    cost(OR, 8, 4, 7);
    cost(OR, 1, 4, 8);
    cost(XOR, 1, 4, 1);
  }

  private static void promise08Refused() {
    of(8, "if there is no such kind");
    for (int kind : new int[] {-1, 4}) {
      Later.refuses(Check.INDEX, "also delay 0", Edges::some, l -> l.cost(kind, 0, 50));
      Later.refuses(Check.INDEX, "also delay 10", Edges::some, l -> l.cost(kind, 10, 50));
      Later.refuses(Check.INDEX, "also area -1", Edges::some, l -> l.cost(kind, 5, -1));
      Later.refuses(Check.INDEX, "also area 100", Edges::some, l -> l.cost(kind, 5, 100));
      Later.refuses(Check.INDEX, "also both", Edges::some, l -> l.cost(kind, LEAST, GREATEST));
    }
    of(8, "if delay or area is out of range");
    Later.refuses(Check.ARGUMENT, "both too small", Edges::some, l -> l.cost(AND, 0, -1));
    Later.refuses(Check.ARGUMENT, "both too great", Edges::some, l -> l.cost(NOT, 10, 100));
    some(x);
    Check.refused(Check.ARGUMENT, "a delay alone", () -> x.cost(AND, 10, 50));
    Check.refused(Check.ARGUMENT, "an area alone", () -> x.cost(AND, 5, 100));
    ofNet(1, 3, 6 * 10 + 2 * 30);
    cost(AND, 1, 1, 2);
  }

  private static void promise09Stick() {
    of(9, "Lets a gate stick, or not any more.");
    inputs(x, 0, 1);
    gate(0, NOT, 0, 0);
    x.out(0, 1);
    x.stick(0, 1, 0);
    value(0, 0, 0);
    x.stick(0, 1, NONE);
    value(0, 0, 1);
    of(9, "`net`: a net");
    for (int net = 0; net < 4; net++) {
      x.input(net);
      stick(net, 0, 1, NONE);
      stick(net, 0, NONE, 1);
    }
    noSuchNet((l, net) -> l.stick(net, 0, 1));
    of(9, "`gate`: a gate of it, perhaps an input");
    full(x, 1);
    for (int gate : new int[] {0, 79, 80, 119}) {
      stick(1, gate, 0, NONE);
      bit(1, gate, MOST_NUMBER, 0);
      stick(1, gate, 1, 0);
      bit(1, gate, 0, 1);
    }
    for (int gate : new int[] {-1, 120, LEAST, GREATEST}) {
      Later.refuses(Check.INDEX, "gate " + gate, l -> full(l, 1), l -> l.stick(1, gate, 1));
    }
    of(9, "`bit`: 0, 1, or NONE for a gate that does not stick");
    inputs(x, 0, 1);
    for (int bit = NONE; bit <= 1; bit++) {
      stick(0, 0, bit, bit == NONE ? NONE : bit - 1);
    }
    for (int bit : new int[] {-2, 2, LEAST, GREATEST}) {
      Later.refuses(Check.ARGUMENT, "bit " + bit, Edges::some, l -> l.stick(0, 2, bit));
      Later.refuses(Check.ARGUMENT, "bit " + bit, Edges::some, l -> l.stick(0, 1, bit));
    }
    of(9, "Returns the same of before.");
    int[] bits = {NONE, NONE, 0, 0, 1, 1, 0, NONE, 1, NONE};
    inputs(x, 3, 1);
    for (int k = 0; k < bits.length; k++) {
      stick(3, 0, bits[k], k == 0 ? NONE : bits[k - 1]);
    }
  }

  private static void promise09Refused() {
    of(9, "if there is no such net or gate");
    for (int bit : new int[] {-2, 2, LEAST, GREATEST}) {
      noSuchNet((l, net) -> l.stick(net, 0, bit));
      Later.refuses(Check.INDEX, "no gate, no bit", Edges::some, l -> l.stick(0, 11, bit));
      Later.refuses(Check.INDEX, "gate -1, no bit", Edges::some, l -> l.stick(0, -1, bit));
      Later.refuses(Check.INDEX, "a net without gates", Edges::some, l -> l.stick(3, 0, bit));
    }
    Later.refuses(Check.INDEX, "a net without gates", Edges::some, l -> l.stick(3, 0, 1));
    Later.refuses(Check.INDEX, "the gate behind the last", Edges::some, l -> l.stick(2, 2, 1));
    of(9, "if bit is out of range");
    Later.refuses(Check.ARGUMENT, "a full net", l -> full(l, 0), l -> l.stick(0, 119, 2));
    Later.refuses(Check.ARGUMENT, "a full net", l -> full(l, 0), l -> l.stick(0, 0, -2));
  }
}
