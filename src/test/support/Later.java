import java.util.ArrayList;
import java.util.List;

/** Later calls, made on two ledgers alike: they show whether a call that was refused changed one. */
final class Later {
  interface Face {
    long on(GateLedger ledger);
  }

  private static final int[] NUMBERS = {0, 0b0110_1101_1011, 1073741823};

  private final GateLedger one;
  private final GateLedger twin;
  private final List<String> wrong = new ArrayList<>();

  private Later(GateLedger one, GateLedger twin) {
    this.one = one;
    this.twin = twin;
  }

  /** The call is refused, and the ledger then answers as one on which it was never made. */
  static void refuses(Class<?> due, String what, Setup setup, Face call) {
    GateLedger one = new GateLedger();
    GateLedger twin = new GateLedger();
    setup.on(one);
    setup.on(twin);
    Check.refused(due, what, () -> call.on(one));
    Later later = new Later(one, twin);
    later.ask();
    Check.same(what + ", later calls that tell of a change", later.wrong.toString(), "[]");
  }

  interface Setup {
    void on(GateLedger ledger);
  }

  private void both(String what, Face call) {
    String got = Check.outcome(() -> call.on(one));
    String want = Check.outcome(() -> call.on(twin));
    if (!got.equals(want)) {
      wrong.add(what + " " + got + " for " + want);
    }
  }

  private void ask() {
    for (int net = 0; net < 4; net++) {
      askOfNet(net);
      askOfFaults(net);
      askOfGates(net);
    }
    for (int net = 0; net < 4; net++) {
      askOfSticks(net);
    }
    for (int kind = 0; kind < 4; kind++) {
      int k = kind;
      both("cost", x -> x.cost(k, 1, 1));
    }
    for (int net = 0; net < 4; net++) {
      askOfRoom(net);
    }
  }

  private void askOfNet(int net) {
    for (int what = 0; what <= 6; what++) {
      int w = what;
      both("ofNet " + net + ", " + w, x -> x.ofNet(net, w));
    }
    for (int place = 0; place < 3; place++) {
      int p = place;
      both("path " + net, x -> x.path(net, p));
    }
    for (int what = 0; what <= 2; what++) {
      int w = what;
      both("changes " + net, x -> x.changes(net, NUMBERS[1], NUMBERS[2], w));
    }
    both("changesAnew " + net, x -> x.changesAnew(net, NUMBERS[0], NUMBERS[2], 0));
  }

  private void askOfFaults(int net) {
    for (int number : NUMBERS) {
      both("value " + net, x -> x.value(net, number));
    }
    both("valueAnew " + net, x -> x.valueAnew(net, NUMBERS[1]));
    both("off " + net, x -> x.off(net, GateLedger.PLUS, 2));
    both("unseen " + net, x -> x.unseen(net, GateLedger.TIMES, 3));
    both("unlike " + net, x -> x.unlike(net, (net + 1) % 4));
  }

  private void askOfGates(int net) {
    int last = twin.ofNet(net, 0) - 1;
    for (int gate : gates(net)) {
      both("bit " + net + ", " + gate, x -> x.bit(net, gate, NUMBERS[1]));
    }
    both("time " + net, x -> x.time(net, last));
  }

  private void askOfSticks(int net) {
    for (int gate : gates(net)) {
      both("stick " + net + ", " + gate, x -> x.stick(net, gate, GateLedger.NONE));
    }
  }

  private void askOfRoom(int net) {
    both("out " + net, x -> x.out(net, 0));
    both("input " + net, x -> x.input(net));
    both("gate " + net, x -> x.gate(net, GateLedger.XOR, 0, 0));
    both("value then " + net, x -> x.value(net, NUMBERS[2]));
    both("clear " + net, x -> x.clear(net));
    both("input then " + net, x -> x.input(net));
  }

  /** The lowest and the highest ones: what a refused call may have touched, and no gate twice. */
  private int[] gates(int net) {
    int size = twin.ofNet(net, 0);
    int low = Math.min(size, 6);
    int high = Math.min(size - low, 2);
    int[] gates = new int[low + high];
    for (int k = 0; k < gates.length; k++) {
      gates[k] = k < low ? k : size - (gates.length - k);
    }
    return gates;
  }
}
