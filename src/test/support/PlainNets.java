import java.util.ArrayList;
import java.util.HashMap;
import java.util.HashSet;
import java.util.List;
import java.util.Map;
import java.util.Set;

/** The document once more in other words: objects, maps and recursion, no care for speed. */
final class PlainNets {
  private static final class Gate {
    final int number;
    final String kind;
    final Gate first;
    final Gate second;
    int stuck = -1;

    Gate(int number, String kind, Gate first, Gate second) {
      this.number = number;
      this.kind = kind;
      this.first = first;
      this.second = second;
    }

    boolean isInput() {
      return kind.equals("input");
    }

    List<Gate> sources() {
      return isInput() ? List.of() : kind.equals("3") ? List.of(first) : List.of(first, second);
    }
  }

  private static final class Net {
    final List<Gate> gates = new ArrayList<>();
    final List<Gate> inputs = new ArrayList<>();
    final List<Gate> outs = new ArrayList<>();

    Gate add(String kind, Gate first, Gate second) {
      Gate gate = new Gate(gates.size(), kind, first, second);
      gates.add(gate);
      if (gate.isInput()) {
        inputs.add(gate);
      }
      return gate;
    }

    Gate and(Gate p, Gate q) {
      return add("0", p, q);
    }

    Gate or(Gate p, Gate q) {
      return add("1", p, q);
    }

    Gate xor(Gate p, Gate q) {
      return add("2", p, q);
    }
  }

  private final List<Net> nets = List.of(new Net(), new Net(), new Net(), new Net());
  private final int[] delays = {1, 1, 1, 1};
  private final int[] areas = {1, 1, 1, 1};

  // ---- exceptions

  private Net net(int net) {
    index(net >= 0 && net < 4);
    return nets.get(net);
  }

  private static Gate gateOf(Net net, int gate) {
    index(gate >= 0 && gate < net.gates.size());
    return net.gates.get(gate);
  }

  private static void index(boolean right) {
    if (!right) {
      throw new IndexOutOfBoundsException();
    }
  }

  private static void argument(boolean right) {
    if (!right) {
      throw new IllegalArgumentException();
    }
  }

  private static void state(boolean right) {
    if (!right) {
      throw new IllegalStateException();
    }
  }

  private static void number(int number) {
    argument(number >= 0 && number <= (1 << 30) - 1);
  }

  // ---- nets

  int input(int net) {
    Net n = net(net);
    state(n.gates.size() < 120 && n.inputs.size() < 30);
    return n.add("input", null, null).number;
  }

  int gate(int net, int kind, int first, int second) {
    Net n = net(net);
    index(kind >= 0 && kind <= 3);
    Gate p = gateOf(n, first);
    Gate q = kind == 3 ? null : gateOf(n, second);
    state(n.gates.size() < 120);
    return n.add(String.valueOf(kind), p, q).number;
  }

  int out(int net, int gate) {
    Net n = net(net);
    Gate g = gateOf(n, gate);
    state(n.outs.size() < 16);
    n.outs.add(g);
    return n.outs.size() - 1;
  }

  int adder(int net, int form, int width) {
    Net n = net(net);
    argument(form >= 0 && form <= 2 && width >= 1 && width <= 6);
    state(n.gates.isEmpty());
    List<Gate> a = inputs(n, width);
    List<Gate> b = inputs(n, width);
    if (form == 0) {
      Gate carry = null;
      for (int k = 0; k < width; k++) {
        Gate[] two = k == 0 ? half(n, a.get(k), b.get(k)) : full(n, a.get(k), b.get(k), carry);
        n.outs.add(two[0]);
        carry = two[1];
      }
      n.outs.add(carry);
    } else {
      joining(n, form, a, b);
    }
    return n.gates.size();
  }

  private static List<Gate> inputs(Net n, int width) {
    List<Gate> made = new ArrayList<>();
    for (int k = 0; k < width; k++) {
      made.add(n.add("input", null, null));
    }
    return made;
  }

  private static Gate[] half(Net n, Gate p, Gate q) {
    return new Gate[] {n.xor(p, q), n.and(p, q)};
  }

  private static Gate[] full(Net n, Gate p, Gate q, Gate r) {
    Gate h = n.xor(p, q);
    Gate s = n.xor(h, r);
    Gate f = n.and(p, q);
    Gate g = n.and(h, r);
    return new Gate[] {s, n.or(f, g)};
  }

  private static void joining(Net n, int form, List<Gate> a, List<Gate> b) {
    int width = a.size();
    List<Gate> unlike = new ArrayList<>();
    List<Gate> g = new ArrayList<>();
    for (int k = 0; k < width; k++) {
      unlike.add(n.xor(a.get(k), b.get(k)));
      g.add(n.and(a.get(k), b.get(k)));
    }
    List<Gate> p = new ArrayList<>(unlike);
    for (int d : new int[] {1, 2, 4}) {
      if (d >= width) {
        break;
      }
      List<Gate> oldP = new ArrayList<>(p);
      List<Gate> oldG = new ArrayList<>(g);
      for (int k = 0; k < width; k++) {
        boolean joined = form == 1 ? k / d % 2 == 1 : k >= d;
        if (joined) {
          int j = form == 1 ? k / d * d - 1 : k - d;
          Gate one = n.and(oldP.get(k), oldG.get(j));
          g.set(k, n.or(oldG.get(k), one));
          p.set(k, n.and(oldP.get(k), oldP.get(j)));
        }
      }
    }
    n.outs.add(unlike.get(0));
    for (int k = 1; k < width; k++) {
      n.outs.add(n.xor(unlike.get(k), g.get(k - 1)));
    }
    n.outs.add(g.get(width - 1));
  }

  int multiplier(int net, int width) {
    Net n = net(net);
    argument(width >= 1 && width <= 4);
    state(n.gates.isEmpty());
    List<Gate> a = inputs(n, width);
    List<Gate> b = inputs(n, width);
    List<List<Gate>> m = new ArrayList<>();
    for (Gate multiplierBit : b) {
      List<Gate> line = new ArrayList<>();
      for (Gate multiplicandBit : a) {
        line.add(n.and(multiplicandBit, multiplierBit));
      }
      m.add(line);
    }
    List<Gate> row = m.get(0);
    for (int i = 1; i < width; i++) {
      n.outs.add(row.remove(0));
      List<Gate> sums = new ArrayList<>();
      Gate carry = null;
      for (int k = 0; k < width; k++) {
        Gate product = m.get(i).get(k);
        Gate[] two;
        if (k == 0) {
          two = half(n, row.get(0), product);
        } else if (k < row.size()) {
          two = full(n, row.get(k), product, carry);
        } else {
          two = half(n, product, carry);
        }
        sums.add(two[0]);
        carry = two[1];
      }
      sums.add(carry);
      row = sums;
    }
    n.outs.addAll(row);
    return n.gates.size();
  }

  int clear(int net) {
    Net n = net(net);
    int had = n.gates.size();
    n.gates.clear();
    n.inputs.clear();
    n.outs.clear();
    return had;
  }

  int cost(int kind, int delay, int area) {
    index(kind >= 0 && kind <= 3);
    argument(delay >= 1 && delay <= 9 && area >= 0 && area <= 99);
    int before = delays[kind];
    delays[kind] = delay;
    areas[kind] = area;
    return before;
  }

  int stick(int net, int gate, int bit) {
    Gate g = gateOf(net(net), gate);
    argument(bit >= -1 && bit <= 1);
    int before = g.stuck;
    g.stuck = bit;
    return before;
  }

  // ---- values

  private static int follow(Gate gate, int p, int q) {
    switch (gate.kind) {
      case "0":
        return p == 1 && q == 1 ? 1 : 0;
      case "1":
        return p == 1 || q == 1 ? 1 : 0;
      case "2":
        return p == q ? 0 : 1;
      default:
        return 1 - p;
    }
  }

  private static Map<Gate, Integer> bits(Net n, int number) {
    Map<Gate, Integer> bits = new HashMap<>();
    for (Gate gate : n.gates) {
      if (gate.stuck >= 0) {
        bits.put(gate, gate.stuck);
      } else if (gate.isInput()) {
        bits.put(gate, (int) (number / (1L << n.inputs.indexOf(gate)) % 2));
      } else {
        bits.put(gate, follow(gate, bits.get(gate.first), bits.getOrDefault(gate.second, 0)));
      }
    }
    return bits;
  }

  private static int valueOf(Net n, int number) {
    Map<Gate, Integer> bits = bits(n, number);
    int sum = 0;
    int weight = 1;
    for (Gate out : n.outs) {
      sum += weight * bits.get(out);
      weight *= 2;
    }
    return sum;
  }

  int bit(int net, int gate, int number) {
    Net n = net(net);
    Gate g = gateOf(n, gate);
    number(number);
    return bits(n, number).get(g);
  }

  int value(int net, int number) {
    Net n = net(net);
    number(number);
    return valueOf(n, number);
  }

  // ---- areas, delays

  int ofNet(int net, int what) {
    Net n = net(net);
    argument(what >= 0 && what <= 6);
    int answer = 0;
    switch (what) {
      case 0:
        return n.gates.size();
      case 1:
        return n.inputs.size();
      case 2:
        return n.outs.size();
      case 3:
        for (Gate gate : n.gates) {
          answer += gate.isInput() ? 0 : areas[Integer.parseInt(gate.kind)];
        }
        return answer;
      case 4:
        for (Gate out : n.outs) {
          answer = Math.max(answer, times(n).get(out));
        }
        return answer;
      case 5:
        for (Gate gate : n.gates) {
          answer = Math.max(answer, load(n, gate));
        }
        return answer;
      default:
        Set<Gate> leading = leadingToOuts(n);
        for (Gate gate : n.gates) {
          answer += gate.isInput() || leading.contains(gate) ? 0 : 1;
        }
        return answer;
    }
  }

  private static int load(Net n, Gate gate) {
    int load = 0;
    for (Gate user : n.gates) {
      for (Gate source : user.sources()) {
        load += source == gate ? 1 : 0;
      }
    }
    for (Gate out : n.outs) {
      load += out == gate ? 1 : 0;
    }
    return load;
  }

  private static Set<Gate> leadingToOuts(Net n) {
    Set<Gate> leading = new HashSet<>(n.outs);
    boolean grows = true;
    while (grows) {
      grows = false;
      for (Gate user : n.gates) {
        if (leading.contains(user)) {
          grows |= leading.addAll(user.sources());
        }
      }
    }
    return leading;
  }

  private int delay(Gate gate) {
    return delays[Integer.parseInt(gate.kind)];
  }

  private Map<Gate, Integer> times(Net n) {
    Map<Gate, Integer> times = new HashMap<>();
    for (Gate gate : n.gates) {
      int greatest = 0;
      for (Gate source : gate.sources()) {
        greatest = Math.max(greatest, times.get(source));
      }
      times.put(gate, gate.isInput() ? 0 : greatest + delay(gate));
    }
    return times;
  }

  int time(int net, int gate) {
    Net n = net(net);
    return times(n).get(gateOf(n, gate));
  }

  int path(int net, int place) {
    Net n = net(net);
    index(place >= 0);
    Map<Gate, Integer> times = times(n);
    List<Gate> path = new ArrayList<>();
    for (Gate out : n.outs) {
      if (times.get(out) == ofNet(net, 4)) {
        path.add(out);
        break;
      }
    }
    while (!path.isEmpty() && !path.get(path.size() - 1).isInput()) {
      Gate last = path.get(path.size() - 1);
      boolean first = times.get(last.first) + delay(last) == times.get(last);
      path.add(first ? last.first : last.second);
    }
    return place < path.size() ? path.get(place).number : -1;
  }

  // ---- changes

  int changes(int net, int from, int to, int what) {
    Net n = net(net);
    number(from);
    number(to);
    argument(what >= 0 && what <= 2);
    Map<Gate, Integer> before = bits(n, from);
    Map<Gate, Integer> after = bits(n, to);
    Map<Gate, boolean[]> courses = new HashMap<>();
    Map<Gate, Integer> times = times(n);
    int all = 0;
    int last = 0;
    int ofOuts = 0;
    int end = 120 * 9;
    for (Gate gate : n.gates) {
      boolean[] course = new boolean[end];
      boolean past = before.get(gate) == 1;
      for (int t = 0; t < end; t++) {
        course[t] = courseAt(gate, t, before, after, courses);
        if (course[t] != past && !gate.isInput()) {
          all++;
          last = Math.max(last, t);
          ofOuts += n.outs.contains(gate) ? 1 : 0;
          Check.holds("a change by the gate's time", t <= times.get(gate));
        }
        past = course[t];
      }
      courses.put(gate, course);
    }
    return what == 0 ? all : what == 1 ? last : ofOuts;
  }

  private boolean courseAt(Gate gate, int t, Map<Gate, Integer> before, Map<Gate, Integer> after,
      Map<Gate, boolean[]> courses) {
    if (gate.stuck >= 0 || gate.isInput()) {
      return after.get(gate) == 1;
    }
    int then = t - delay(gate);
    if (then < 0) {
      return before.get(gate) == 1;
    }
    int p = courses.get(gate.first)[then] ? 1 : 0;
    int q = gate.second != null && courses.get(gate.second)[then] ? 1 : 0;
    return follow(gate, p, q) == 1;
  }

  // ---- faults

  private static long due(Net n, int operation, int number) {
    int side = 1 << n.inputs.size() / 2;
    long x = number % side;
    long y = number / side;
    return operation == 0 ? x + y : x * y;
  }

  private static void heldAgainst(Net n) {
    state(List.of(2, 4, 6, 8, 10, 12).contains(n.inputs.size()));
  }

  int off(int net, int operation, int what) {
    Net n = net(net);
    argument(operation >= 0 && operation <= 1 && what >= 0 && what <= 3);
    heldAgainst(n);
    long[] told = {0, 0, 0, -1};
    for (int number = (1 << n.inputs.size()) - 1; number >= 0; number--) {
      long apart = Math.abs(valueOf(n, number) - due(n, operation, number));
      if (apart > 0) {
        told[0]++;
        told[1] = Math.max(told[1], apart);
        told[2] += apart;
        told[3] = number;
      }
    }
    return (int) told[what];
  }

  int unseen(int net, int operation, int m) {
    Net n = net(net);
    argument(operation >= 0 && operation <= 1 && m >= 2 && m <= 99);
    heldAgainst(n);
    int count = 0;
    for (int number = 0; number < 1 << n.inputs.size(); number++) {
      long value = valueOf(n, number);
      long due = due(n, operation, number);
      count += value != due && value % m == due % m ? 1 : 0;
    }
    return count;
  }

  int unlike(int net, int other) {
    Net one = net(net);
    Net two = net(other);
    state(one.inputs.size() == two.inputs.size() && one.inputs.size() <= 12);
    for (int number = 0; number < 1 << one.inputs.size(); number++) {
      if (valueOf(one, number) != valueOf(two, number)) {
        return number;
      }
    }
    return -1;
  }

  // ---- digits

  int digit(int number, int place) {
    index(place >= 0 && place <= 15);
    argument(number >= 0);
    String bits = "0".repeat(64) + Integer.toBinaryString(number);
    int end = bits.length() - 1;
    int low = bits.charAt(end - 2 * place) - '0';
    int below = place == 0 ? 0 : bits.charAt(end - 2 * place + 1) - '0';
    int high = bits.charAt(end - 2 * place - 1) - '0';
    return low + below - 2 * high;
  }
}
