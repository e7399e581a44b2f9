import java.util.Random;

/** Long runs of calls, right and wrong ones, each answer held against PlainNets. The seeds are fixed. */
public final class WalkTest {
  private static final int CALLS = 512;

  private final Random random;
  private final GateLedger ledger = new GateLedger();
  private final PlainNets plain = new PlainNets();
  private final String name;
  private int calls;

  private WalkTest(String name, long seed) {
    this.name = name;
    random = new Random(seed);
  }

  public static void main(String[] args) {
    for (int seed = 0; seed < 60; seed++) {
      new WalkTest("small " + seed, seed).smallNets();
      new WalkTest("made " + seed, 1000 + seed).madeNets();
      new WalkTest("deep " + seed, 2000 + seed).deepNet();
      new WalkTest("full " + seed, 3000 + seed).fullNet();
    }
    Check.end("WalkTest");
  }

  private void both(String call, Check.Call mine, Check.Call due) {
    if (calls < CALLS) {
      calls++;
      Check.same(name + ", call " + calls + ", " + call, Check.outcome(mine), Check.outcome(due));
    }
  }

  // ---- the walks

  private void smallNets() {
    for (int net = 0; net < 4; net++) {
      for (int k = random.nextInt(5); k >= 0; k--) {
        input(net);
      }
    }
    while (calls < CALLS) {
      anyCall(random.nextInt(21), net(), 40);
    }
  }

  private void madeNets() {
    while (calls < CALLS) {
      int net = net();
      if (random.nextInt(12) == 0) {
        clear(net);
      }
      if (random.nextInt(4) == 0) {
        adder(net, random.nextInt(3), 1 + random.nextInt(6));
      }
      if (random.nextInt(8) == 0) {
        multiplier(net, 1 + random.nextInt(4));
      }
      anyCall(3 + random.nextInt(18), net, 120);
    }
  }

  private void deepNet() {
    input(0);
    cost(random.nextInt(4), 1 + random.nextInt(9), random.nextInt(100));
    cost(random.nextInt(4), 9, 99);
    for (int gate = 1; gate < 119; gate++) {
      int kind = random.nextInt(8) == 0 ? random.nextInt(4) : gate % 2 + GateLedger.XOR;
      gate(0, kind, gate - 1, Math.max(0, gate - 1 - random.nextInt(12)));
      if (gate % 9 == 0) {
        out(0, gate);
      }
    }
    askOfAll(0, 119, 1);
    while (calls < CALLS) {
      anyCall(1 + random.nextInt(20), 0, 120);
    }
  }

  private void fullNet() {
    for (int k = 0; k < 31; k++) {
      input(3);
    }
    for (int gate = 30; gate < 120; gate++) {
      gate(3, random.nextInt(4), random.nextInt(gate), random.nextInt(gate));
    }
    for (int place = 0; place < 17; place++) {
      out(3, 119 - random.nextInt(40));
    }
    input(3);
    gate(3, GateLedger.AND, 0, 1);
    gate(3, GateLedger.AND, 0, 120);
    askOfAll(3, 120, (1 << 30) - 1);
    while (calls < CALLS) {
      anyCall(3 + random.nextInt(18), 3, 120);
    }
  }

  private void askOfAll(int net, int gates, int greatest) {
    for (int what = 0; what <= 6; what++) {
      ofNet(net, what);
    }
    for (int what = 0; what <= 2; what++) {
      changes(net, 0, greatest, what);
    }
    time(net, gates - 1);
    path(net, 0);
    path(net, 1);
    path(net, gates - 1);
    path(net, gates);
    value(net, greatest);
  }

  private void anyCall(int which, int net, int gates) {
    int gate = gateNumber(gates);
    switch (which) {
      case 0 -> input(net);
      case 1, 2 -> gate(net, kind(), gate, gateNumber(gates));
      case 3 -> out(net, gate);
      case 4 -> clearNowAndThen(net);
      case 5 -> cost(kind(), within(0, 10), within(-1, 100));
      case 6 -> stick(net, gate, within(-2, 2));
      case 7 -> bit(net, gate, number());
      case 8, 9 -> value(net, number());
      case 10, 11 -> ofNet(net, within(-1, 7));
      case 12 -> time(net, gate);
      case 13 -> path(net, random.nextInt(8) == 0 ? extreme() : within(-1, 20));
      case 14, 15 -> changes(net, number(), number(), within(-1, 3));
      case 16 -> off(net, within(-1, 2), within(-1, 4));
      case 17 -> unseen(net, within(-1, 2), random.nextInt(5) == 0 ? within(0, 101) : within(1, 5));
      case 18 -> unlike(net, net());
      case 19 -> digit(number(), within(-1, 16));
      default -> making(net);
    }
  }

  private void clearNowAndThen(int net) {
    if (random.nextInt(6) == 0) {
      clear(net);
    }
  }

  private void making(int net) {
    if (random.nextBoolean()) {
      adder(net, within(-1, 3), within(0, 7));
    } else {
      multiplier(net, within(0, 5));
    }
  }

  // ---- arguments, some of them wrong

  private int net() {
    return random.nextInt(20) == 0 ? (random.nextBoolean() ? -1 : 4) : random.nextInt(4);
  }

  private int kind() {
    return random.nextInt(15) == 0 ? within(-1, 4) : random.nextInt(4);
  }

  private int gateNumber(int gates) {
    int least = random.nextInt(12) == 0 ? -1 : 0;
    return random.nextInt(25) == 0 ? extreme() : within(least, random.nextInt(gates));
  }

  private int number() {
    switch (random.nextInt(12)) {
      case 0:
        return extreme();
      case 1:
        return (1 << 30) - random.nextInt(2);
      case 2:
        return -random.nextInt(2);
      case 3:
      case 4:
        return random.nextInt(1 << 30);
      default:
        return random.nextInt(1 << 1 + random.nextInt(13));
    }
  }

  private int extreme() {
    return random.nextBoolean() ? Integer.MAX_VALUE : Integer.MIN_VALUE;
  }

  private int within(int least, int greatest) {
    return least + random.nextInt(greatest - least + 1);
  }

  // ---- the calls

  private void input(int net) {
    both("input(" + net + ")", () -> ledger.input(net), () -> plain.input(net));
  }

  private void gate(int net, int kind, int first, int second) {
    both("gate(" + net + ", " + kind + ", " + first + ", " + second + ")",
        () -> ledger.gate(net, kind, first, second), () -> plain.gate(net, kind, first, second));
  }

  private void out(int net, int gate) {
    both("out(" + net + ", " + gate + ")",
        () -> ledger.out(net, gate), () -> plain.out(net, gate));
  }

  private void adder(int net, int form, int width) {
    both("adder(" + net + ", " + form + ", " + width + ")",
        () -> ledger.adder(net, form, width), () -> plain.adder(net, form, width));
  }

  private void multiplier(int net, int width) {
    both("multiplier(" + net + ", " + width + ")",
        () -> ledger.multiplier(net, width), () -> plain.multiplier(net, width));
  }

  private void clear(int net) {
    both("clear(" + net + ")", () -> ledger.clear(net), () -> plain.clear(net));
  }

  private void cost(int kind, int delay, int area) {
    both("cost(" + kind + ", " + delay + ", " + area + ")",
        () -> ledger.cost(kind, delay, area), () -> plain.cost(kind, delay, area));
  }

  private void stick(int net, int gate, int bit) {
    both("stick(" + net + ", " + gate + ", " + bit + ")",
        () -> ledger.stick(net, gate, bit), () -> plain.stick(net, gate, bit));
  }

  private void bit(int net, int gate, int number) {
    both("bit(" + net + ", " + gate + ", " + number + ")",
        () -> ledger.bit(net, gate, number), () -> plain.bit(net, gate, number));
  }

  private void value(int net, int number) {
    both("value(" + net + ", " + number + ")",
        () -> ledger.value(net, number), () -> plain.value(net, number));
    both("valueAnew(" + net + ", " + number + ")",
        () -> ledger.valueAnew(net, number), () -> plain.value(net, number));
  }

  private void ofNet(int net, int what) {
    both("ofNet(" + net + ", " + what + ")",
        () -> ledger.ofNet(net, what), () -> plain.ofNet(net, what));
  }

  private void time(int net, int gate) {
    both("time(" + net + ", " + gate + ")",
        () -> ledger.time(net, gate), () -> plain.time(net, gate));
  }

  private void path(int net, int place) {
    both("path(" + net + ", " + place + ")",
        () -> ledger.path(net, place), () -> plain.path(net, place));
  }

  private void changes(int net, int from, int to, int what) {
    String arguments = "(" + net + ", " + from + ", " + to + ", " + what + ")";
    both("changes" + arguments,
        () -> ledger.changes(net, from, to, what), () -> plain.changes(net, from, to, what));
    both("changesAnew" + arguments,
        () -> ledger.changesAnew(net, from, to, what), () -> plain.changes(net, from, to, what));
  }

  private void off(int net, int operation, int what) {
    both("off(" + net + ", " + operation + ", " + what + ")",
        () -> ledger.off(net, operation, what), () -> plain.off(net, operation, what));
  }

  private void unseen(int net, int operation, int m) {
    both("unseen(" + net + ", " + operation + ", " + m + ")",
        () -> ledger.unseen(net, operation, m), () -> plain.unseen(net, operation, m));
  }

  private void unlike(int net, int other) {
    both("unlike(" + net + ", " + other + ")",
        () -> ledger.unlike(net, other), () -> plain.unlike(net, other));
  }

  private void digit(int number, int place) {
    both("digit(" + number + ", " + place + ")",
        () -> ledger.digit(number, place), () -> plain.digit(number, place));
  }
}
