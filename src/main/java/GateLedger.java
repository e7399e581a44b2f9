/** Four nets of gates: how they are made, what they cost, what they answer, and how they fail. */
public final class GateLedger {
  public static final int NONE = -1;
  public static final int AND = 0, OR = 1, XOR = 2, NOT = 3;
  public static final int RIPPLE = 0, SPREAD = 1, JUMP = 2;
  public static final int PLUS = 0, TIMES = 1;

  private static final int INPUT = 4;
  private static final int NETS = 4;
  private static final int MOST_GATES = 120;
  private static final int MOST_INPUTS = 30;
  private static final int MOST_OUTS = 16;
  private static final int MOST_INPUTS_HELD = 12;
  private static final int GREATEST_NUMBER = 1073741823;

  private final Net[] nets = new Net[NETS];
  private final Row delays = new Row(INPUT);
  private final Row areas = new Row(INPUT);
  private final Maker maker = new Maker();
  private final Wiring wiring = new Wiring();
  private final Timing timing = new Timing();
  private final Lanes lanes = new Lanes();
  private final Lanes otherLanes = new Lanes();
  private final Tally tally = new Tally();
  private final Waves waves = new Waves();
  private final Ticks ticks = new Ticks();
  private final Audit audit = new Audit();

  public GateLedger() {
    for (int net = 0; net < nets.length; net++) {
      nets[net] = new Net();
    }
    for (int kind = AND; kind <= NOT; kind++) {
      delays.put(kind, 1);
      areas.put(kind, 1);
    }
  }

  // ---- nets

  public int input(int net) throws IndexOutOfBoundsException, IllegalStateException {
    Net asked = netAt(net);
    if (asked.isFull() || asked.inputCount() >= MOST_INPUTS) {
      throw new IllegalStateException("no room for an input");
    }
    return asked.addInput();
  }

  public int gate(int net, int kind, int first, int second)
      throws IndexOutOfBoundsException, IllegalStateException {
    Net asked = netAt(net);
    needKind(kind);
    needGate(asked, first);
    if (kind != NOT) {
      needGate(asked, second);
    }
    if (asked.isFull()) {
      throw new IllegalStateException("no room for a gate");
    }
    return asked.addJoined(kind, first, second);
  }

  public int out(int net, int gate) throws IndexOutOfBoundsException, IllegalStateException {
    Net asked = netAt(net);
    needGate(asked, gate);
    if (asked.outCount() >= MOST_OUTS) {
      throw new IllegalStateException("no room for an out");
    }
    return asked.addOut(gate);
  }

  public int adder(int net, int form, int width)
      throws IndexOutOfBoundsException, IllegalArgumentException, IllegalStateException {
    Net asked = netAt(net);
    needRange(form, RIPPLE, JUMP);
    needRange(width, 1, Maker.WIDEST_ADDER);
    needNoGates(asked);
    if (form == RIPPLE) {
      maker.makeRipple(asked, width);
    } else {
      maker.makeJoining(asked, form == SPREAD, width);
    }
    return asked.size();
  }

  public int multiplier(int net, int width)
      throws IndexOutOfBoundsException, IllegalArgumentException, IllegalStateException {
    Net asked = netAt(net);
    needRange(width, 1, Maker.WIDEST_MULTIPLIER);
    needNoGates(asked);
    maker.makeProduct(asked, width);
    return asked.size();
  }

  public int clear(int net) throws IndexOutOfBoundsException {
    Net asked = netAt(net);
    int had = asked.size();
    asked.removeAll();
    return had;
  }

  public int cost(int kind, int delay, int area)
      throws IndexOutOfBoundsException, IllegalArgumentException {
    needKind(kind);
    needRange(delay, 1, 9);
    needRange(area, 0, 99);
    int before = delays.at(kind);
    delays.put(kind, delay);
    areas.put(kind, area);
    return before;
  }

  public int stick(int net, int gate, int bit)
      throws IndexOutOfBoundsException, IllegalArgumentException {
    Net asked = netAt(net);
    needGate(asked, gate);
    needRange(bit, NONE, 1);
    int before = asked.stuckBitOf(gate);
    asked.setStuckBit(gate, bit);
    return before;
  }

  // ---- values

  public int bit(int net, int gate, int number)
      throws IndexOutOfBoundsException, IllegalArgumentException {
    Net asked = netAt(net);
    needGate(asked, gate);
    needRange(number, 0, GREATEST_NUMBER);
    lanes.fillForOne(asked, number);
    return lanes.bitOf(gate);
  }

  public int value(int net, int number)
      throws IndexOutOfBoundsException, IllegalArgumentException {
    Net asked = netAt(net);
    needRange(number, 0, GREATEST_NUMBER);
    lanes.fillForOne(asked, number);
    return lanes.valueInLane(asked, 0);
  }

  public int valueAnew(int net, int number)
      throws IndexOutOfBoundsException, IllegalArgumentException {
    Net asked = netAt(net);
    needRange(number, 0, GREATEST_NUMBER);
    int sum = 0;
    for (int place = 0; place < asked.outCount(); place++) {
      sum += wiring.bitGoingBack(asked, asked.outAt(place), number) << place;
    }
    return sum;
  }

  // ---- areas, delays

  public int ofNet(int net, int what) throws IndexOutOfBoundsException, IllegalArgumentException {
    Net asked = netAt(net);
    needRange(what, 0, 6);
    switch (what) {
      case 0:
        return asked.size();
      case 1:
        return asked.inputCount();
      case 2:
        return asked.outCount();
      case 3:
        return areaOf(asked);
      case 4:
        timing.measure(asked, delays);
        return timing.timeOfNet(asked);
      case 5:
        return wiring.greatestLoad(asked);
      default:
        return wiring.idleCount(asked);
    }
  }

  public int time(int net, int gate) throws IndexOutOfBoundsException {
    Net asked = netAt(net);
    needGate(asked, gate);
    timing.measure(asked, delays);
    return timing.timeOf(gate);
  }

  public int path(int net, int place) throws IndexOutOfBoundsException {
    Net asked = netAt(net);
    if (place < 0) {
      throw new IndexOutOfBoundsException("no such place");
    }
    if (place >= MOST_GATES) {
      return NONE;
    }
    timing.measure(asked, delays);
    int gate = timing.slowestOut(asked);
    for (int step = 0; step < place && gate != NONE; step++) {
      gate = timing.slowestSource(asked, delays, gate);
    }
    return gate;
  }

  // ---- changes

  public int changes(int net, int from, int to, int what)
      throws IndexOutOfBoundsException, IllegalArgumentException {
    Net asked = netAt(net);
    needTransition(from, to, what);
    prepareTransition(asked, from, to);
    waves.run(asked, delays, lanes, otherLanes, timing.latest());
    waves.count(asked, lanes, tally);
    return tally.told(what);
  }

  public int changesAnew(int net, int from, int to, int what)
      throws IndexOutOfBoundsException, IllegalArgumentException {
    Net asked = netAt(net);
    needTransition(from, to, what);
    prepareTransition(asked, from, to);
    ticks.begin(asked, lanes);
    for (int now = 0; now <= timing.latest(); now++) {
      ticks.run(asked, delays, otherLanes, now, tally);
    }
    return tally.told(what);
  }

  // ---- faults

  public int off(int net, int operation, int what)
      throws IndexOutOfBoundsException, IllegalArgumentException, IllegalStateException {
    Net asked = netAt(net);
    needRange(operation, PLUS, TIMES);
    needRange(what, 0, 3);
    needTwoOperands(asked);
    audit.hold(asked, lanes, operation, 1);
    return audit.told(what);
  }

  public int unseen(int net, int operation, int m)
      throws IndexOutOfBoundsException, IllegalArgumentException, IllegalStateException {
    Net asked = netAt(net);
    needRange(operation, PLUS, TIMES);
    needRange(m, 2, 99);
    needTwoOperands(asked);
    audit.hold(asked, lanes, operation, m);
    return audit.unseenCount();
  }

  public int unlike(int net, int other) throws IndexOutOfBoundsException, IllegalStateException {
    Net one = netAt(net);
    Net two = netAt(other);
    if (one.inputCount() != two.inputCount() || one.inputCount() > MOST_INPUTS_HELD) {
      throw new IllegalStateException("the inputs of the nets do not allow it");
    }
    int numbers = 1 << one.inputCount();
    for (int base = 0; base < numbers; base += Lanes.COUNT) {
      lanes.fillFrom(one, base);
      otherLanes.fillFrom(two, base);
      int lane = lanes.firstUnlike(otherLanes, Math.min(Lanes.COUNT, numbers - base));
      if (lane != NONE) {
        return base + lane;
      }
    }
    return NONE;
  }

  // ---- digits

  public int digit(int number, int place)
      throws IndexOutOfBoundsException, IllegalArgumentException {
    if (place < 0 || place > 15) {
      throw new IndexOutOfBoundsException("no such place");
    }
    needRange(number, 0, 2147483647);
    int low = 2 * place;
    int below = low == 0 ? 0 : number >> (low - 1) & 1;
    return (number >> low & 1) + below - 2 * (number >> (low + 1) & 1);
  }

  // ---- what several calls need

  private Net netAt(int net) {
    if (net < 0 || net >= nets.length || nets[net] == null) {
      throw new IndexOutOfBoundsException("no such net");
    }
    return nets[net];
  }

  private static void needKind(int kind) {
    if (kind < AND || kind > NOT) {
      throw new IndexOutOfBoundsException("no such kind");
    }
  }

  private static void needGate(Net net, int gate) {
    if (!net.has(gate)) {
      throw new IndexOutOfBoundsException("no such gate");
    }
  }

  private static void needRange(int number, int least, int greatest) {
    if (number < least || number > greatest) {
      throw new IllegalArgumentException("an argument is out of its range");
    }
  }

  private static void needTransition(int from, int to, int what) {
    needRange(from, 0, GREATEST_NUMBER);
    needRange(to, 0, GREATEST_NUMBER);
    needRange(what, 0, 2);
  }

  private static void needNoGates(Net net) {
    if (net.size() > 0) {
      throw new IllegalStateException("the net has gates");
    }
  }

  private static void needTwoOperands(Net net) {
    int inputs = net.inputCount();
    if (inputs < 2 || inputs > MOST_INPUTS_HELD || (inputs & 1) != 0) {
      throw new IllegalStateException("the inputs of the net are not two operands");
    }
  }

  private int areaOf(Net net) {
    int sum = 0;
    for (int gate = 0; gate < net.size(); gate++) {
      if (!net.isInput(gate)) {
        sum += areas.at(net.kindOf(gate));
      }
    }
    return sum;
  }

  private void prepareTransition(Net net, int from, int to) {
    timing.measure(net, delays);
    lanes.fillForOne(net, from);
    otherLanes.fillForOne(net, to);
    tally.begin();
  }

  private static long join(int kind, long first, long second) {
    switch (kind) {
      case AND:
        return first & second;
      case OR:
        return first | second;
      case XOR:
        return first ^ second;
      default:
        return ~first;
    }
  }

  /** Ints behind a test of each index, so that the machine never meets a wrong one. */
  private static final class Row {
    private final int[] cells;

    Row(int size) {
      cells = new int[size > 0 ? size : 0];
    }

    int at(int index) {
      return index >= 0 && index < cells.length ? cells[index] : 0;
    }

    void put(int index, int number) {
      if (index >= 0 && index < cells.length) {
        cells[index] = number;
      }
    }

    void add(int index, int number) {
      put(index, at(index) + number);
    }

    void wipe() {
      for (int index = 0; index < cells.length; index++) {
        cells[index] = 0;
      }
    }

    void copyFrom(Row other) {
      for (int index = 0; index < cells.length; index++) {
        cells[index] = other.at(index);
      }
    }
  }

  /** Longs behind a test of each index, as Row has ints. */
  private static final class WideRow {
    private final long[] cells;

    WideRow(int size) {
      cells = new long[size > 0 ? size : 0];
    }

    long at(int index) {
      return index >= 0 && index < cells.length ? cells[index] : 0L;
    }

    void put(int index, long number) {
      if (index >= 0 && index < cells.length) {
        cells[index] = number;
      }
    }
  }

  /** Gates and outs of one net. Sources have lower numbers, so one walk upwards meets them first. */
  private static final class Net {
    private final Row kinds = new Row(MOST_GATES);
    private final Row firsts = new Row(MOST_GATES);
    private final Row seconds = new Row(MOST_GATES);
    private final Row stuckBits = new Row(MOST_GATES);
    private final Row outs = new Row(MOST_OUTS);
    private int gateTotal;
    private int inputTotal;
    private int outTotal;

    int size() {
      return gateTotal;
    }

    int inputCount() {
      return inputTotal;
    }

    int outCount() {
      return outTotal;
    }

    boolean isFull() {
      return gateTotal >= MOST_GATES;
    }

    boolean has(int gate) {
      return gate >= 0 && gate < gateTotal;
    }

    boolean isInput(int gate) {
      return kinds.at(gate) == INPUT;
    }

    int kindOf(int gate) {
      return kinds.at(gate);
    }

    int firstOf(int gate) {
      return firsts.at(gate);
    }

    int secondOf(int gate) {
      return seconds.at(gate);
    }

    int stuckBitOf(int gate) {
      return stuckBits.at(gate);
    }

    void setStuckBit(int gate, int bit) {
      stuckBits.put(gate, bit);
    }

    int outAt(int place) {
      return outs.at(place);
    }

    boolean isOut(int gate) {
      for (int place = 0; place < outTotal; place++) {
        if (outs.at(place) == gate) {
          return true;
        }
      }
      return false;
    }

    int addInput() {
      inputTotal++;
      return add(INPUT, 0, 0);
    }

    /** A NOT keeps its first source twice: its second one may be no gate at all. */
    int addJoined(int kind, int first, int second) {
      return add(kind, first, kind == NOT ? first : second);
    }

    int addOut(int gate) {
      int place = outTotal;
      outs.put(place, gate);
      outTotal++;
      return place;
    }

    void removeAll() {
      gateTotal = 0;
      inputTotal = 0;
      outTotal = 0;
    }

    private int add(int kind, int first, int second) {
      int gate = gateTotal;
      kinds.put(gate, kind);
      firsts.put(gate, first);
      seconds.put(gate, second);
      stuckBits.put(gate, NONE);
      gateTotal++;
      return gate;
    }
  }

  /** Makes adders and multipliers in a net without gates; there a(k) is the gate k. */
  private static final class Maker {
    static final int WIDEST_ADDER = 6;
    static final int WIDEST_MULTIPLIER = 4;

    private final Row unlikes = new Row(WIDEST_ADDER);
    private final Row passes = new Row(WIDEST_ADDER);
    private final Row passesAhead = new Row(WIDEST_ADDER);
    private final Row carries = new Row(WIDEST_ADDER);
    private final Row carriesAhead = new Row(WIDEST_ADDER);
    private final Row products = new Row(WIDEST_MULTIPLIER * WIDEST_MULTIPLIER);
    private final Row line = new Row(WIDEST_MULTIPLIER + 1);
    private int lineLength;
    private int sum;
    private int carry;

    void makeRipple(Net net, int width) {
      addInputs(net, width);
      addHalf(net, 0, width);
      net.addOut(sum);
      for (int k = 1; k < width; k++) {
        addFull(net, k, width + k, carry);
        net.addOut(sum);
      }
      net.addOut(carry);
    }

    void makeJoining(Net net, boolean spread, int width) {
      addInputs(net, width);
      for (int k = 0; k < width; k++) {
        addHalf(net, k, width + k);
        unlikes.put(k, sum);
        passes.put(k, sum);
        carries.put(k, carry);
      }
      for (int distance = 1; distance < width; distance *= 2) {
        addJoins(net, spread, width, distance);
      }
      net.addOut(unlikes.at(0));
      for (int k = 1; k < width; k++) {
        net.addOut(net.addJoined(XOR, unlikes.at(k), carries.at(k - 1)));
      }
      net.addOut(carries.at(width - 1));
    }

    void makeProduct(Net net, int width) {
      addInputs(net, width);
      for (int i = 0; i < width; i++) {
        for (int k = 0; k < width; k++) {
          products.put(i * width + k, net.addJoined(AND, k, width + i));
        }
      }
      for (int k = 0; k < width; k++) {
        line.put(k, products.at(k));
      }
      lineLength = width;
      for (int i = 1; i < width; i++) {
        net.addOut(takeFirstOfLine());
        addToLine(net, width, i);
      }
      for (int k = 0; k < lineLength; k++) {
        net.addOut(line.at(k));
      }
    }

    private void addInputs(Net net, int width) {
      for (int k = 0; k < 2 * width; k++) {
        net.addInput();
      }
    }

    private void addHalf(Net net, int p, int q) {
      sum = net.addJoined(XOR, p, q);
      carry = net.addJoined(AND, p, q);
    }

    private void addFull(Net net, int p, int q, int r) {
      int h = net.addJoined(XOR, p, q);
      sum = net.addJoined(XOR, h, r);
      int f = net.addJoined(AND, p, q);
      int g = net.addJoined(AND, h, r);
      carry = net.addJoined(OR, f, g);
    }

    private void addJoins(Net net, boolean spread, int width, int distance) {
      passesAhead.copyFrom(passes);
      carriesAhead.copyFrom(carries);
      for (int k = 0; k < width; k++) {
        int j = spread ? spreadPartner(k, distance) : k - distance;
        if (j >= 0) {
          int pass = passesAhead.at(k);
          int through = net.addJoined(AND, pass, carriesAhead.at(j));
          carries.put(k, net.addJoined(OR, carriesAhead.at(k), through));
          passes.put(k, net.addJoined(AND, pass, passesAhead.at(j)));
        }
      }
    }

    /** The distance is a power of two, so masks tell its odd and its greatest multiple. */
    private static int spreadPartner(int k, int distance) {
      return (k & distance) == 0 ? NONE : (k & -distance) - 1;
    }

    private int takeFirstOfLine() {
      int first = line.at(0);
      for (int k = 1; k < lineLength; k++) {
        line.put(k - 1, line.at(k));
      }
      lineLength--;
      return first;
    }

    private void addToLine(Net net, int width, int i) {
      for (int k = 0; k < width; k++) {
        int product = products.at(i * width + k);
        if (k == 0) {
          addHalf(net, line.at(k), product);
        } else if (k < lineLength) {
          addFull(net, line.at(k), product, carry);
        } else {
          addHalf(net, product, carry);
        }
        line.put(k, sum);
      }
      line.put(width, carry);
      lineLength = width + 1;
    }
  }

  /** Bits of all gates of a net for 64 numbers at once: one number in each lane of a word. */
  private static final class Lanes {
    static final int COUNT = 64;
    private static final long[] LOW_INPUTS = {
      0xAAAAAAAAAAAAAAAAL, 0xCCCCCCCCCCCCCCCCL, 0xF0F0F0F0F0F0F0F0L,
      0xFF00FF00FF00FF00L, 0xFFFF0000FFFF0000L, 0xFFFFFFFF00000000L
    };

    private final WideRow words = new WideRow(MOST_GATES);
    private final WideRow outWords = new WideRow(MOST_OUTS);

    void fillForOne(Net net, int number) {
      fill(net, number, false);
    }

    /** Lane k is for the number base + k; base is a multiple of 64. */
    void fillFrom(Net net, int base) {
      fill(net, base, true);
    }

    long wordOf(int gate) {
      return words.at(gate);
    }

    int bitOf(int gate) {
      return (int) (words.at(gate) & 1L);
    }

    int valueInLane(Net net, int lane) {
      int sum = 0;
      for (int place = 0; place < net.outCount(); place++) {
        sum += (int) (outWords.at(place) >>> lane & 1L) << place;
      }
      return sum;
    }

    int firstUnlike(Lanes other, int lanesUsed) {
      long unlike = 0L;
      for (int place = 0; place < MOST_OUTS; place++) {
        unlike |= outWords.at(place) ^ other.outWords.at(place);
      }
      for (int lane = 0; lane < lanesUsed; lane++) {
        if ((unlike >>> lane & 1L) != 0L) {
          return lane;
        }
      }
      return NONE;
    }

    private void fill(Net net, int base, boolean counting) {
      int inputPlace = 0;
      for (int gate = 0; gate < net.size(); gate++) {
        long word;
        if (net.isInput(gate)) {
          word = inputWord(inputPlace, base, counting);
          inputPlace++;
        } else {
          word = join(net.kindOf(gate), words.at(net.firstOf(gate)), words.at(net.secondOf(gate)));
        }
        int stuck = net.stuckBitOf(gate);
        words.put(gate, stuck == NONE ? word : everyLane(stuck));
      }
      for (int place = 0; place < MOST_OUTS; place++) {
        outWords.put(place, place < net.outCount() ? words.at(net.outAt(place)) : 0L);
      }
    }

    private static long inputWord(int inputPlace, int base, boolean counting) {
      if (counting && inputPlace >= 0 && inputPlace < LOW_INPUTS.length) {
        return LOW_INPUTS[inputPlace];
      }
      return everyLane(base >> inputPlace & 1);
    }

    private static long everyLane(int bit) {
      return bit == 0 ? 0L : -1L;
    }
  }

  /** What follows from which gate is a source of which. */
  private static final class Wiring {
    private final Row marks = new Row(MOST_GATES);
    private final Row bits = new Row(MOST_GATES);
    private final Row loads = new Row(MOST_GATES);

    int greatestLoad(Net net) {
      loads.wipe();
      for (int gate = 0; gate < net.size(); gate++) {
        if (!net.isInput(gate)) {
          loads.add(net.firstOf(gate), 1);
          loads.add(net.secondOf(gate), net.kindOf(gate) == NOT ? 0 : 1);
        }
      }
      for (int place = 0; place < net.outCount(); place++) {
        loads.add(net.outAt(place), 1);
      }
      int greatest = 0;
      for (int gate = 0; gate < net.size(); gate++) {
        greatest = Math.max(greatest, loads.at(gate));
      }
      return greatest;
    }

    int idleCount(Net net) {
      marks.wipe();
      for (int place = 0; place < net.outCount(); place++) {
        marks.put(net.outAt(place), 1);
      }
      markBack(net);
      int idle = 0;
      for (int gate = 0; gate < net.size(); gate++) {
        if (!net.isInput(gate) && marks.at(gate) == 0) {
          idle++;
        }
      }
      return idle;
    }

    int bitGoingBack(Net net, int out, int number) {
      marks.wipe();
      marks.put(out, 1);
      markBack(net);
      int inputPlace = 0;
      for (int gate = 0; gate <= out; gate++) {
        if (marks.at(gate) != 0) {
          bits.put(gate, markedBit(net, gate, number >> inputPlace & 1));
        }
        if (net.isInput(gate)) {
          inputPlace++;
        }
      }
      return bits.at(out);
    }

    /** Sources have lower numbers, so one walk downwards finds all ways back. */
    private void markBack(Net net) {
      for (int gate = net.size() - 1; gate >= 0; gate--) {
        if (marks.at(gate) != 0 && !net.isInput(gate)) {
          marks.put(net.firstOf(gate), 1);
          marks.put(net.secondOf(gate), 1);
        }
      }
    }

    private int markedBit(Net net, int gate, int inputBit) {
      if (net.stuckBitOf(gate) != NONE) {
        return net.stuckBitOf(gate);
      }
      if (net.isInput(gate)) {
        return inputBit;
      }
      long first = bits.at(net.firstOf(gate));
      long second = bits.at(net.secondOf(gate));
      return (int) (join(net.kindOf(gate), first, second) & 1L);
    }
  }

  /** Times of all gates of a net, and the slowest path that they make. */
  private static final class Timing {
    private final Row times = new Row(MOST_GATES);
    private int latest;

    void measure(Net net, Row delays) {
      latest = 0;
      for (int gate = 0; gate < net.size(); gate++) {
        int time = 0;
        if (!net.isInput(gate)) {
          int sources = Math.max(times.at(net.firstOf(gate)), times.at(net.secondOf(gate)));
          time = delays.at(net.kindOf(gate)) + sources;
        }
        times.put(gate, time);
        latest = Math.max(latest, time);
      }
    }

    int timeOf(int gate) {
      return times.at(gate);
    }

    /** The greatest time of any gate, also of one that is behind all outs. */
    int latest() {
      return latest;
    }

    int timeOfNet(Net net) {
      int slowest = slowestOut(net);
      return slowest == NONE ? 0 : times.at(slowest);
    }

    int slowestOut(Net net) {
      int slowest = NONE;
      for (int place = 0; place < net.outCount(); place++) {
        int gate = net.outAt(place);
        if (slowest == NONE || times.at(gate) > times.at(slowest)) {
          slowest = gate;
        }
      }
      return slowest;
    }

    int slowestSource(Net net, Row delays, int gate) {
      if (net.isInput(gate)) {
        return NONE;
      }
      int first = net.firstOf(gate);
      int arrival = times.at(first) + delays.at(net.kindOf(gate));
      return arrival == times.at(gate) ? first : net.secondOf(gate);
    }
  }

  /** What is told of the changes of one transition. */
  private static final class Tally {
    private int total;
    private int lastTime;
    private int totalOfOuts;

    void begin() {
      total = 0;
      lastTime = 0;
      totalOfOuts = 0;
    }

    void add(int count, int time, boolean ofOut) {
      total += count;
      lastTime = Math.max(lastTime, time);
      totalOfOuts += ofOut ? count : 0;
    }

    int told(int what) {
      switch (what) {
        case 0:
          return total;
        case 1:
          return lastTime;
        default:
          return totalOfOuts;
      }
    }
  }

  /** Bits of each gate over time, in words: a delay is a shift, a change two unlike neighbours. */
  private static final class Waves {
    private static final int WORD_BITS = 64;
    /** Enough for the time 1071, which 119 gates of delay 9 have. */
    private static final int WORDS = 17;

    private final WideRow words = new WideRow(MOST_GATES * WORDS);
    private int used;

    void run(Net net, Row delays, Lanes before, Lanes after, int latest) {
      used = Math.min(WORDS, (latest >> 6) + 1);
      for (int gate = 0; gate < net.size(); gate++) {
        if (net.isInput(gate) || net.stuckBitOf(gate) != NONE) {
          hold(gate, after.wordOf(gate));
        } else {
          delay(net, gate, delays.at(net.kindOf(gate)), before.wordOf(gate));
        }
      }
    }

    void count(Net net, Lanes before, Tally tally) {
      for (int gate = 0; gate < net.size(); gate++) {
        if (!net.isInput(gate)) {
          countGate(gate, before.wordOf(gate), net.isOut(gate), tally);
        }
      }
    }

    private void hold(int gate, long word) {
      for (int index = 0; index < used; index++) {
        words.put(gate * WORDS + index, word);
      }
    }

    private void delay(Net net, int gate, int delay, long before) {
      int first = net.firstOf(gate) * WORDS;
      int second = net.secondOf(gate) * WORDS;
      long past = before;
      for (int index = 0; index < used; index++) {
        long now = join(net.kindOf(gate), words.at(first + index), words.at(second + index));
        words.put(gate * WORDS + index, now << delay | past >>> (WORD_BITS - delay));
        past = now;
      }
    }

    private void countGate(int gate, long before, boolean isOut, Tally tally) {
      long past = before;
      for (int index = 0; index < used; index++) {
        long now = words.at(gate * WORDS + index);
        long turned = now ^ (now << 1 | past >>> (WORD_BITS - 1));
        if (turned != 0L) {
          tally.add(Long.bitCount(turned), index * WORD_BITS + highestBit(turned), isOut);
        }
        past = now;
      }
    }

    private static int highestBit(long word) {
      int highest = 0;
      for (int place = 1; place < WORD_BITS; place++) {
        if ((word >>> place & 1L) != 0L) {
          highest = place;
        }
      }
      return highest;
    }
  }

  /** Runs a transition time by time; only as many times are kept as the greatest delay needs. */
  private static final class Ticks {
    private static final int KEPT = 16;

    private final Row bits = new Row(MOST_GATES * KEPT);

    void begin(Net net, Lanes before) {
      for (int gate = 0; gate < net.size(); gate++) {
        for (int kept = 0; kept < KEPT; kept++) {
          bits.put(gate * KEPT + kept, before.bitOf(gate));
        }
      }
    }

    void run(Net net, Row delays, Lanes after, int now, Tally tally) {
      for (int gate = 0; gate < net.size(); gate++) {
        boolean given = net.isInput(gate) || net.stuckBitOf(gate) != NONE;
        int then = now - delays.at(net.kindOf(gate));
        int bit = given ? after.bitOf(gate) : followingBit(net, gate, then);
        if (bit != bitAt(gate, now - 1) && !net.isInput(gate)) {
          tally.add(1, now, net.isOut(gate));
        }
        bits.put(cellOf(gate, now), bit);
      }
    }

    private int followingBit(Net net, int gate, int then) {
      long first = bitAt(net.firstOf(gate), then);
      long second = bitAt(net.secondOf(gate), then);
      return (int) (join(net.kindOf(gate), first, second) & 1L);
    }

    private int bitAt(int gate, int time) {
      return bits.at(cellOf(gate, time));
    }

    private static int cellOf(int gate, int time) {
      return gate * KEPT + (time & (KEPT - 1));
    }
  }

  /** Holds a net against an operation, for all numbers that have bits for its inputs alone. */
  private static final class Audit {
    private int offTotal;
    private int greatestGap;
    private int gapTotal;
    private int leastOff;
    private int unseenTotal;

    void hold(Net net, Lanes lanes, int operation, int modulus) {
      begin();
      int half = net.inputCount() >> 1;
      int numbers = 1 << net.inputCount();
      for (int base = 0; base < numbers; base += Lanes.COUNT) {
        lanes.fillFrom(net, base);
        int lanesUsed = Math.min(Lanes.COUNT, numbers - base);
        for (int lane = 0; lane < lanesUsed; lane++) {
          int number = base + lane;
          int gap = Math.abs(lanes.valueInLane(net, lane) - dueFor(operation, number, half));
          if (gap > 0) {
            note(number, gap, modulus);
          }
        }
      }
    }

    int told(int what) {
      switch (what) {
        case 0:
          return offTotal;
        case 1:
          return greatestGap;
        case 2:
          return gapTotal;
        default:
          return leastOff;
      }
    }

    int unseenCount() {
      return unseenTotal;
    }

    private void begin() {
      offTotal = 0;
      greatestGap = 0;
      gapTotal = 0;
      leastOff = NONE;
      unseenTotal = 0;
    }

    private void note(int number, int gap, int modulus) {
      if (offTotal == 0) {
        leastOff = number;
      }
      offTotal++;
      greatestGap = Math.max(greatestGap, gap);
      gapTotal += gap;
      if (modulus > 0 && gap % modulus == 0) {
        unseenTotal++;
      }
    }

    private static int dueFor(int operation, int number, int half) {
      int x = number & ((1 << half) - 1);
      int y = number >> half;
      return operation == PLUS ? x + y : x * y;
    }
  }
}
