/** The edges of adders and multipliers: promises 5 and 6, and the terms of them. */
public final class MadeEdgesTest extends Edges {
  /** How many gates, by form and width. */
  private static final int[][] ADDERS = {
    {4, 11, 18, 25, 32, 39}, {4, 12, 20, 31, 39, 50}, {4, 12, 23, 34, 48, 62}
  };
  private static final int[] MULTIPLIERS = {3, 12, 36, 72};

  public static void main(String[] args) {
    widths();
    leastWidths();
    halvesAndFulls();
    greatestRipple();
    greatestSpreadAndJump();
    joins();
    joinsOfThree();
    multipliers();
    promise05Adder();
    promise05Refused();
    promise06Multiplier();
    promise06Refused();
    Document.allNamed("MadeEdgesTest");
    Check.end("MadeEdgesTest");
  }

  // ---- terms

  private static void widths() {
    of("Adders, multipliers", "They are made of a WIDTH w in a net without gates.");
    for (int width = 1; width <= 6; width++) {
      int w = width;
      for (int form = RIPPLE; form <= JUMP; form++) {
        int f = form;
        Check.due(ADDERS[f][w - 1], "adder " + f + ", " + w, () -> x.adder(0, f, w));
        Check.refused(Check.STATE, "in the same net", () -> x.adder(0, f, w));
        x.clear(0);
      }
    }
    for (int width = 1; width <= 4; width++) {
      int w = width;
      Check.due(MULTIPLIERS[w - 1], "multiplier " + w, () -> x.multiplier(0, w));
      Check.refused(Check.STATE, "in the same net", () -> x.multiplier(0, w));
      x.clear(0);
    }

    of("Adders, multipliers", "First the inputs a(0) to a(w - 1) come, then the inputs b(0) to b(w - 1).");
    x.adder(0, JUMP, 6);
    x.adder(1, RIPPLE, 1);
    x.multiplier(2, 4);
    inputsAreFirst(0, 12);
    inputsAreFirst(1, 2);
    inputsAreFirst(2, 8);
    value(0, 63 + (5 << 6), 68);
    value(0, 5 + (63 << 6), 68);
    value(2, 15 + (1 << 4), 15);
    value(2, 3 + (5 << 4), 15);
  }

  private static void inputsAreFirst(int net, int inputs) {
    ofNet(net, 1, inputs);
    for (int k = 0; k < inputs; k++) {
      bit(net, k, 1 << k, 1);
      bit(net, k, MOST_NUMBER - (1 << k), 0);
      time(net, k, 0);
    }
    time(net, inputs, 1);
  }

  /** The width 1: there is no k from 1 to w - 1, no d below w, and no row but the first. */
  private static void leastWidths() {
    of("Adders, multipliers", "What is told below is made gate by gate in the order in which it is told");
    for (int form = RIPPLE; form <= JUMP; form++) {
      x.adder(form, form, 1);
      counts(form, 4, 2, 2);
      truth(form, 2, 0b0110);
      truth(form, 3, 0b1000);
      path(form, 2, 0);
      int[] values = {0, 1, 1, 2};
      for (int number = 0; number < 4; number++) {
        value(form, number, values[number]);
      }
      off(form, PLUS, 0, 0, 0, NONE);
    }
    x.multiplier(3, 1);
    counts(3, 3, 2, 1);
    truth(3, 2, 0b1000);
    path(3, 2, 0);
    off(3, TIMES, 0, 0, 0, NONE);
  }

  private static void truth(int net, int gate, int bits) {
    for (int number = 0; number < 4; number++) {
      bit(net, gate, number, bits >> number & 1);
    }
  }

  private static void halvesAndFulls() {
    of("Adders, multipliers", "A HALF of p and q is the two gates p XOR q, its sum, then p AND q, its carry.");
    alike("RIPPLE 1", l -> l.adder(0, RIPPLE, 1), l ->
        told(l, 2, new int[][] {{XOR, 0, 1}, {AND, 0, 1}}, 2, 3));
    of("Adders, multipliers", "A FULL of p, q and r is the five gates h = p XOR q, then h XOR r, its sum");
    alike("RIPPLE 2", l -> l.adder(0, RIPPLE, 2), l -> told(l, 4, new int[][] {
      {XOR, 0, 2}, {AND, 0, 2},
      {XOR, 1, 3}, {XOR, 6, 5}, {AND, 1, 3}, {AND, 6, 5}, {OR, 8, 9}
    }, 4, 7, 10));
  }

  private static void greatestRipple() {
    of("Adders, multipliers", "RIPPLE: a HALF of a(0) and b(0); then for each k from 1 to w - 1 a FULL");
    for (int width = 1; width <= 6; width++) {
      int w = width;
      alike("RIPPLE " + w, l -> l.adder(0, RIPPLE, w), l -> Words.adder(l, 1, RIPPLE, w));
    }
    of("Adders, multipliers", "The outs are all sums by rising k, then the last carry.");
    x.adder(0, RIPPLE, 6);
    counts(0, 39, 12, 7);
    ofNet(0, 4, 11);
    path(0, 38, 37, 33, 32, 28, 27, 23, 22, 18, 17, 14, 1);
    off(0, PLUS, 0, 0, 0, NONE);
    value(0, 4095, 126);
  }

  private static void greatestSpreadAndJump() {
    of("Adders, multipliers", "SPREAD and JUMP: for each k from 0 to w - 1 the two gates a(k) XOR b(k)");
    for (int width = 1; width <= 6; width++) {
      int w = width;
      alike("SPREAD " + w, l -> l.adder(0, SPREAD, w), l -> Words.adder(l, 1, SPREAD, w));
      alike("JUMP " + w, l -> l.adder(0, JUMP, w), l -> Words.adder(l, 1, JUMP, w));
    }
    of("Adders, multipliers", "At last for each k from 1 to w - 1 the gate made by a(k) XOR b(k), XOR G(k - 1).");
    x.adder(1, SPREAD, 6);
    counts(1, 50, 12, 7);
    ofNet(1, 4, 8);
    x.adder(2, JUMP, 6);
    counts(2, 62, 12, 7);
    ofNet(2, 4, 7);
    of("Adders, multipliers", "The outs are the gate made by a(0) XOR b(0), then these by rising k, then G(w - 1).");
    for (int form = SPREAD; form <= JUMP; form++) {
      x.adder(form, form, 6);
      for (int k = 0; k < 6; k++) {
        value(form, 1 << k, 1 << k);
        value(form, 1 << k + 6, 1 << k);
        value(form, 1 << k | 1 << k + 6, 2 << k);
      }
      off(form, PLUS, 0, 0, 0, NONE);
    }
  }

  /** d is below w: with the widths 2 and 4 there is none more, with 3 and 5 there is. */
  private static void joins() {
    of("Adders, multipliers", "Then for each d of 1, 2, 4 and so on that is below w");
    int[][] joined = {{0, 1, 2, 4, 5, 7}, {0, 1, 3, 5, 8, 11}};
    for (int form = SPREAD; form <= JUMP; form++) {
      for (int width = 1; width <= 6; width++) {
        int f = form;
        int w = width;
        int gates = 2 * w + 2 * w + 3 * joined[f - 1][w - 1] + w - 1;
        Check.due(gates, "adder " + f + ", " + w, () -> x.adder(0, f, w));
        x.clear(0);
      }
    }
    of("Adders, multipliers", "By SPREAD k is joined, if k divided by d, rounded down, is odd");
    alike("SPREAD 2", l -> l.adder(0, SPREAD, 2), MadeEdgesTest::joinedOfTwo);
    x = new GateLedger();
    x.adder(0, SPREAD, 6);
    // Behind the joins of 1, 3, 5, then 2, 3, then 4, 5 the five last sums come.
    int[] times = {2, 3, 2, 2, 3, 2, 2, 3, 2, 4, 5, 3, 4, 5, 3, 6, 7, 4, 6, 7, 4, 2, 4, 6, 6, 8};
    for (int k = 0; k < times.length; k++) {
      time(0, 24 + k, times[k]);
    }
    of("Adders, multipliers", "By JUMP k is joined, if it is at least d, and j is k less d.");
    alike("JUMP 2", l -> l.adder(0, JUMP, 2), MadeEdgesTest::joinedOfTwo);
    x = new GateLedger();
    x.adder(0, JUMP, 3);
    int[] timesOfThree = {2, 3, 2, 2, 3, 2, 3, 4, 3, 2, 4};
    for (int k = 0; k < timesOfThree.length; k++) {
      time(0, 12 + k, timesOfThree[k]);
    }
  }

  /** d of 1 and of 2: the last carry's gates differ, as j of 2 is 1 by SPREAD and 0 by JUMP. */
  private static void joinsOfThree() {
    of("Adders, multipliers", "and j is the greatest multiple of d that is at most k, less 1.");
    int[][] ofSpread = {
      {XOR, 0, 3}, {AND, 0, 3}, {XOR, 1, 4}, {AND, 1, 4}, {XOR, 2, 5}, {AND, 2, 5},
      {AND, 8, 7}, {OR, 9, 12}, {AND, 8, 6},
      {AND, 10, 13}, {OR, 11, 15}, {AND, 10, 14},
      {XOR, 8, 7}, {XOR, 10, 13}
    };
    alike("SPREAD 3", l -> l.adder(0, SPREAD, 3), l -> told(l, 6, ofSpread, 6, 18, 19, 16));
    of("Adders, multipliers", "P and G of k and j being as they were ahead of this d");
    int[][] ofJump = {
      {XOR, 0, 3}, {AND, 0, 3}, {XOR, 1, 4}, {AND, 1, 4}, {XOR, 2, 5}, {AND, 2, 5},
      {AND, 8, 7}, {OR, 9, 12}, {AND, 8, 6}, {AND, 10, 9}, {OR, 11, 15}, {AND, 10, 8},
      {AND, 17, 7}, {OR, 16, 18}, {AND, 17, 6},
      {XOR, 8, 7}, {XOR, 10, 13}
    };
    alike("JUMP 3", l -> l.adder(0, JUMP, 3), l -> told(l, 6, ofJump, 6, 21, 22, 19));
  }

  private static void told(GateLedger l, int inputs, int[][] gates, int... outs) {
    inputs(l, 1, inputs);
    for (int[] gate : gates) {
      l.gate(1, gate[0], gate[1], gate[2]);
    }
    for (int out : outs) {
      l.out(1, out);
    }
  }

  private static void joinedOfTwo(GateLedger l) {
    told(l, 4, new int[][] {
      {XOR, 0, 2}, {AND, 0, 2}, {XOR, 1, 3}, {AND, 1, 3},
      {AND, 6, 5}, {OR, 7, 8}, {AND, 6, 4},
      {XOR, 6, 5}
    }, 4, 11, 9);
  }

  private static void multipliers() {
    of("Adders, multipliers", "The multiplier: for each i from 0 to w - 1, and for each k from 0 to w - 1");
    for (int width = 1; width <= 4; width++) {
      int w = width;
      alike("multiplier " + w, l -> l.multiplier(0, w), l -> Words.multiplier(l, 1, w));
    }
    of("Adders, multipliers", "The ROW is M(0, 0) to M(0, w - 1) at first.");
    x.multiplier(0, 1);
    counts(0, 3, 2, 1);
    value(0, 3, 1);
    of("Adders, multipliers", "if the row has no k-th gate, a HALF of M(i, k) and the carry ahead of it");
    alike("multiplier 2", l -> l.multiplier(0, 2), l -> told(l, 4, new int[][] {
      {AND, 0, 2}, {AND, 1, 2}, {AND, 0, 3}, {AND, 1, 3},
      {XOR, 5, 6}, {AND, 5, 6}, {XOR, 7, 9}, {AND, 7, 9}
    }, 4, 8, 10, 11));
    of("Adders, multipliers", "At last all gates of the row, in its order, are the next outs.");
    x.multiplier(1, 4);
    counts(1, 72, 8, 8);
    value(1, 255, 225);
    for (int k = 0; k < 4; k++) {
      value(1, 1 << k | 8 << 4, 8 << k);
    }
    off(1, TIMES, 0, 0, 0, NONE);
  }

  // ---- promises

  private static void promise05Adder() {
    of(5, "Makes an adder.");
    // Of SPREAD and JUMP the last P of each k from 1 on is needed by none: w - 1 gates are idle.
    for (int form = RIPPLE; form <= JUMP; form++) {
      for (int width = 1; width <= 6; width++) {
        x.adder(form, form, width);
        counts(form, ADDERS[form][width - 1], 2 * width, width + 1);
        ofNet(form, 6, form == RIPPLE ? 0 : width - 1);
        off(form, PLUS, 0, 0);
        x.clear(form);
      }
    }
    of(5, "`net`: a net");
    for (int net = 0; net < 4; net++) {
      int n = net;
      Check.due(62, "adder in the net " + n, () -> x.adder(n, JUMP, 6));
    }
    noSuchNet((l, net) -> l.adder(net, RIPPLE, 1));
    of(5, "`form`: RIPPLE to JUMP");
    Check.due(39, "RIPPLE", () -> x.adder(0, RIPPLE, 6));
    Check.due(50, "SPREAD", () -> x.adder(1, SPREAD, 6));
    Check.due(62, "JUMP", () -> x.adder(2, JUMP, 6));
    for (int form : new int[] {-1, 3, LEAST, GREATEST}) {
      Later.refuses(Check.ARGUMENT, "form " + form, Edges::some, l -> l.adder(3, form, 2));
    }
    of(5, "`width`: 1 to 6");
    for (int form = RIPPLE; form <= JUMP; form++) {
      int f = form;
      Check.due(4, "the least width", () -> x.adder(f, f, 1));
      x.clear(f);
      Check.due(ADDERS[f][5], "the greatest width", () -> x.adder(f, f, 6));
      for (int width : new int[] {0, 7, -1, LEAST, GREATEST}) {
        Later.refuses(Check.ARGUMENT, "width " + width, Edges::some, l -> l.adder(3, f, width));
      }
    }
    of(5, "Returns how many gates it has.");
    Check.due(25, "RIPPLE 4, inputs too", () -> x.adder(0, RIPPLE, 4));
    Check.due(31, "SPREAD 4, inputs too", () -> x.adder(1, SPREAD, 4));
    Check.due(34, "JUMP 4, inputs too", () -> x.adder(2, JUMP, 4));
  }

  private static void promise05Refused() {
    of(5, "if there is no such net");
    noSuchNet((l, net) -> l.adder(net, 3, 1));
    noSuchNet((l, net) -> l.adder(net, 0, 7));
    for (int net : NO_NETS) {
      Later.refuses(Check.INDEX, "full nets", Edges::allFull, l -> l.adder(net, RIPPLE, 1));
      Later.refuses(Check.INDEX, "full nets, no width", Edges::allFull, l -> l.adder(net, -1, 0));
    }
    of(5, "if form or width is out of range");
    Later.refuses(Check.ARGUMENT, "both too small", Edges::some, l -> l.adder(3, -1, 0));
    Later.refuses(Check.ARGUMENT, "both too great", Edges::some, l -> l.adder(3, 3, 7));
    for (int net = 0; net < 3; net++) {
      int n = net;
      Later.refuses(Check.ARGUMENT, "form, and gates", Edges::some, l -> l.adder(n, 3, 1));
      Later.refuses(Check.ARGUMENT, "form -1, and gates", Edges::some, l -> l.adder(n, -1, 1));
      Later.refuses(Check.ARGUMENT, "width 0, and gates", Edges::some, l -> l.adder(n, 0, 0));
      Later.refuses(Check.ARGUMENT, "width 7, and gates", Edges::some, l -> l.adder(n, 0, 7));
    }
    Later.refuses(Check.ARGUMENT, "a full net", l -> full(l, 3), l -> l.adder(3, 0, 7));
    of(5, "if it has a gate");
    for (int form = RIPPLE; form <= JUMP; form++) {
      int f = form;
      Later.refuses(Check.STATE, "one input", l -> l.input(1), l -> l.adder(1, f, 1));
      Later.refuses(Check.STATE, "an adder", Edges::some, l -> l.adder(0, f, 6));
      Later.refuses(Check.STATE, "a multiplier", Edges::some, l -> l.adder(1, f, 6));
      Later.refuses(Check.STATE, "120 gates", l -> full(l, 2), l -> l.adder(2, f, 1));
      x.input(0);
      x.stick(0, 0, 1);
      x.clear(0);
      Check.due(ADDERS[f][1], "gates taken away", () -> x.adder(0, f, 2));
      off(0, PLUS, 0, 0, 0, NONE);
      x.clear(0);
    }
    x.adder(0, JUMP, 6);
    Check.due(62, "a made net takes a gate", () -> x.gate(0, NOT, 61, 0));
    Check.due(7, "and an out", () -> x.out(0, 62));
    Check.due(63, "and an input", () -> x.input(0));
  }

  private static void promise06Multiplier() {
    of(6, "Makes a multiplier.");
    for (int width = 1; width <= 4; width++) {
      x.multiplier(2, width);
      counts(2, MULTIPLIERS[width - 1], 2 * width, width == 1 ? 1 : 2 * width);
      ofNet(2, 6, 0);
      off(2, TIMES, 0, 0, 0, NONE);
      x.clear(2);
    }
    of(6, "`net`: a net");
    for (int net = 0; net < 4; net++) {
      int n = net;
      Check.due(72, "multiplier in the net " + n, () -> x.multiplier(n, 4));
    }
    noSuchNet((l, net) -> l.multiplier(net, 1));
    of(6, "`width`: 1 to 4");
    Check.due(3, "the least width", () -> x.multiplier(0, 1));
    Check.due(72, "the greatest width", () -> x.multiplier(1, 4));
    for (int width : new int[] {0, 5, 6, -1, LEAST, GREATEST}) {
      Later.refuses(Check.ARGUMENT, "width " + width, Edges::some, l -> l.multiplier(3, width));
    }
    of(6, "Returns how many gates it has.");
    Check.due(12, "2, inputs too", () -> x.multiplier(0, 2));
    Check.due(36, "3, inputs too", () -> x.multiplier(1, 3));
  }

  private static void promise06Refused() {
    of(6, "if there is no such net");
    noSuchNet((l, net) -> l.multiplier(net, 0));
    noSuchNet((l, net) -> l.multiplier(net, 5));
    for (int net : NO_NETS) {
      Later.refuses(Check.INDEX, "full nets", Edges::allFull, l -> l.multiplier(net, 1));
      Later.refuses(Check.INDEX, "full nets, no width", Edges::allFull, l -> l.multiplier(net, 5));
    }
    of(6, "if width is out of range");
    for (int net = 0; net < 3; net++) {
      int n = net;
      Later.refuses(Check.ARGUMENT, "width 0, and gates", Edges::some, l -> l.multiplier(n, 0));
      Later.refuses(Check.ARGUMENT, "width 5, and gates", Edges::some, l -> l.multiplier(n, 5));
    }
    Later.refuses(Check.ARGUMENT, "a full net", l -> full(l, 3), l -> l.multiplier(3, 5));
    of(6, "if it has a gate");
    Later.refuses(Check.STATE, "one input", l -> l.input(1), l -> l.multiplier(1, 1));
    Later.refuses(Check.STATE, "an adder", Edges::some, l -> l.multiplier(0, 4));
    Later.refuses(Check.STATE, "a multiplier", Edges::some, l -> l.multiplier(1, 4));
    Later.refuses(Check.STATE, "120 gates", l -> full(l, 2), l -> l.multiplier(2, 1));
    x.input(0);
    x.stick(0, 0, 1);
    x.clear(0);
    Check.due(12, "gates taken away", () -> x.multiplier(0, 2));
    off(0, TIMES, 0, 0, 0, NONE);
    Check.due(12, "a made net takes a gate", () -> x.gate(0, NOT, 11, 0));
    Check.due(4, "and an out", () -> x.out(0, 12));
    Check.due(13, "and an input", () -> x.input(0));
  }

  // ---- nets that are to be the same

  /** The net 0 that one makes and the net 1 that the other one tells by hand are the same. */
  private static void alike(String what, Later.Setup made, Later.Setup told) {
    begin(made, told);
    for (int asked = 0; asked <= 6; asked++) {
      int a = asked;
      Check.due(x.ofNet(1, a), what + ", ofNet " + a, () -> x.ofNet(0, a));
    }
    unlike(0, 1, NONE);
    alikeTimes(what, made, told);
    for (int first = 1; first <= 9; first += 4) {
      for (int second = 1; second <= 9; second += 4) {
        alikePaths(what, made, told, first, second);
      }
    }
    alikeGates(what, made, told);
  }

  private static void begin(Later.Setup made, Later.Setup told) {
    x = new GateLedger();
    made.on(x);
    told.on(x);
  }

  private static void alikeTimes(String what, Later.Setup made, Later.Setup told) {
    begin(made, told);
    x.cost(AND, 2, 1);
    x.cost(OR, 5, 20);
    x.cost(XOR, 9, 99);
    Check.due(x.ofNet(1, 3), what + ", area", () -> x.ofNet(0, 3));
    for (int gate = x.ofNet(1, 0) - 1; gate >= 0; gate--) {
      int g = gate;
      Check.due(x.time(1, g), what + ", time of " + g, () -> x.time(0, g));
    }
  }

  /** A path shows which source is the first one, if both have the same time. */
  private static void alikePaths(String what, Later.Setup made, Later.Setup told, int ofAnd, int ofXor) {
    begin(made, told);
    x.cost(AND, ofAnd, 1);
    x.cost(XOR, ofXor, 1);
    for (int place = 0; place < 24; place++) {
      int p = place;
      Check.due(x.path(1, p), what + ", path at " + p, () -> x.path(0, p));
    }
    for (int number = 0; number < 9; number++) {
      int n = 455 * number;
      Check.due(x.changes(1, 4095, n, 0), what + ", changes", () -> x.changes(0, 4095, n, 0));
    }
  }

  /** Each gate has the same bits for all numbers, whichever gate sticks. */
  private static void alikeGates(String what, Later.Setup made, Later.Setup told) {
    begin(made, told);
    int gates = x.ofNet(1, 0);
    int room = 16 - x.ofNet(1, 2);
    for (int from = 0; from < gates; from += room) {
      for (int stuckFrom = 0; stuckFrom < gates; stuckFrom += 30) {
        begin(made, told);
        for (int out = from; out < Math.min(gates, from + room); out++) {
          x.out(0, out);
          x.out(1, out);
        }
        for (int gate = stuckFrom; gate < Math.min(gates, stuckFrom + 30); gate++) {
          alikeWithStuck(what, gate);
        }
      }
    }
  }

  private static void alikeWithStuck(String what, int gate) {
    for (int bit = 1; bit >= NONE; bit--) {
      x.stick(0, gate, bit);
      x.stick(1, gate, bit);
      if (bit != NONE) {
        int b = bit;
        Check.due(NONE, what + ", gate " + gate + " sticks at " + b, () -> x.unlike(0, 1));
      }
    }
  }
}
