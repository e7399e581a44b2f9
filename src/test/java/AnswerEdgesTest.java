/** The edges of values, areas, delays, paths and changes: promises 10 to 17, and the terms of them. */
public final class AnswerEdgesTest extends Edges {
  private static final int[] NOT_OF_FULL = {-1, 120, LEAST, GREATEST};

  public static void main(String[] args) {
    delaysAndAreas();
    timesAndPaths();
    loadsAndIdleGates();
    stuckGatesDoNotMatter();
    goingFromOneNumberToAnother();
    changesOfGatesAlone();
    promise10Bit();
    promise10Refused();
    promise11And12Value();
    promise11And12Refused();
    promise13OfNet();
    promise13LeastAndGreatest();
    promise14Time();
    promise15Path();
    promise15PlacesAndOuts();
    promise16And17Numbers();
    promise16And17Whats();
    promise16And17LatestTimes();
    promise16And17Refused();
    Document.allNamed("AnswerEdgesTest");
    Check.end("AnswerEdgesTest");
  }

  // ---- terms

  private static void delaysAndAreas() {
    of("Areas, delays", "Each kind has a delay, 1 to 9, 1 at first, and an area, 0 to 99, 1 at first, in all nets.");
    for (int net = 0; net < 4; net++) {
      inputs(x, net, 1);
      for (int kind = AND; kind <= NOT; kind++) {
        gate(net, kind, 0, 0);
        time(net, 1 + kind, 1);
        ofNet(net, 3, 1 + kind);
      }
    }
    for (int kind = AND; kind <= NOT; kind++) {
      cost(kind, 9, 99, 1);
      for (int net = 0; net < 4; net++) {
        time(net, 1 + kind, 9);
        ofNet(net, 3, 99 * (1 + kind) + 3 - kind);
      }
    }
    for (int kind = AND; kind <= NOT; kind++) {
      cost(kind, 1, 0, 9);
      time(3, 1 + kind, 1);
    }
    ofNet(3, 3, 0);

    of("Areas, delays", "The area of a net is that of all its gates but inputs, together.");
    ofNet(0, 3, 0);
    inputs(x, 0, 30);
    ofNet(0, 3, 0);
    chain(x, 0, 120);
    ofNet(0, 3, 90);
    x.cost(NOT, 1, 99);
    ofNet(0, 3, 90 * 99);
    inputs(x, 1, 1);
    chain(x, 1, 120);
    ofNet(1, 3, 119 * 99);
    x.cost(NOT, 1, 0);
    ofNet(1, 3, 0);
  }

  private static void timesAndPaths() {
    of("Areas, delays", "The TIME of an input is 0, that of another gate is its delay and the greatest time");
    inputs(x, 0, 1);
    chain(x, 0, 29);
    inputs(x, 0, 1);
    gate(0, AND, 0, 28);
    gate(0, AND, 28, 0);
    gate(0, NOT, 0, 28);
    gate(0, XOR, 29, 0);
    int[][] times = {{0, 0}, {1, 1}, {28, 28}, {29, 0}, {30, 29}, {31, 29}, {32, 1}, {33, 1}};
    for (int[] of : times) {
      time(0, of[0], of[1]);
    }

    of("Areas, delays", "The delay of a net is the greatest time of its outs, 0 without outs.");
    ofNet(0, 4, 0);
    inputs(x, 0, 1);
    chain(x, 0, 120);
    ofNet(0, 4, 0);
    int[][] outs = {{0, 0}, {1, 1}, {0, 1}, {118, 118}, {3, 118}, {119, 119}, {0, 119}};
    for (int[] out : outs) {
      x.out(0, out[0]);
      ofNet(0, 4, out[1]);
    }

    of("Areas, delays", "The SLOWEST PATH begins with the out that has this time, of several the first one");
    inputs(x, 0, 3);
    gate(0, AND, 0, 1);
    gate(0, AND, 1, 2);
    gate(0, XOR, 4, 3);
    gate(0, XOR, 2, 3);
    gate(0, XOR, 3, 2);
    x.out(0, 1);
    x.out(0, 0);
    path(0, 1);
    x.out(0, 4);
    x.out(0, 3);
    path(0, 4, 1);
    x.out(0, 5);
    x.out(0, 6);
    path(0, 5, 4, 1);
    x.clear(0);
    inputs(x, 0, 3);
    gate(0, AND, 2, 1);
    gate(0, OR, 0, 3);
    gate(0, OR, 3, 0);
    x.out(0, 4);
    path(0, 4, 3, 2);
    x.out(0, 5);
    path(0, 4, 3, 2);
  }

  private static void loadsAndIdleGates() {
    of("Areas, delays", "The LOAD of a gate is how many times it is a source, each place of each gate counted");
    ofNet(0, 5, 0);
    inputs(x, 0, 2);
    ofNet(0, 5, 0);
    x.out(0, 1);
    ofNet(0, 5, 1);
    gate(0, NOT, 0, 0);
    ofNet(0, 5, 1);
    gate(0, XOR, 0, 0);
    ofNet(0, 5, 3);
    gate(0, NOT, 3, 0);
    ofNet(0, 5, 3);
    outs(x, 0, 1, 3);
    ofNet(0, 5, 4);
    inputs(x, 1, 1);
    for (int gate = 1; gate < 120; gate++) {
      gate(1, AND, 0, 0);
    }
    ofNet(1, 5, 238);
    outs(x, 1, 0, 16);
    ofNet(1, 5, 254);

    of("Areas, delays", "A gate is IDLE, if it is no input, and there is no way from it to an out");
    ofNet(0, 6, 0);
    inputs(x, 0, 1);
    ofNet(0, 6, 0);
    gate(0, AND, 0, 0);
    gate(0, NOT, 0, 1);
    ofNet(0, 6, 2);
    x.out(0, 0);
    ofNet(0, 6, 2);
    x.out(0, 2);
    ofNet(0, 6, 1);
    gate(0, OR, 0, 1);
    ofNet(0, 6, 2);
    x.out(0, 3);
    ofNet(0, 6, 0);
    inputs(x, 1, 1);
    chain(x, 1, 120);
    ofNet(1, 6, 119);
    x.out(1, 1);
    ofNet(1, 6, 118);
    x.out(1, 118);
    ofNet(1, 6, 1);
    x.out(1, 119);
    ofNet(1, 6, 0);
  }

  private static void stuckGatesDoNotMatter() {
    of("Areas, delays", "Gates that stick do not matter for all of this.");
    x.adder(0, RIPPLE, 1);
    x.adder(1, RIPPLE, 1);
    for (int net = 0; net < 2; net++) {
      gate(net, NOT, 2, 0);
      x.out(net, 4);
      gate(net, OR, 4, 3);
    }
    for (int gate = 0; gate < 6; gate++) {
      x.stick(0, gate, gate & 1);
    }
    int[] due = {6, 2, 3, 4, 2, 2, 1};
    for (int net = 0; net < 2; net++) {
      for (int what = 0; what <= 6; what++) {
        ofNet(net, what, due[what]);
      }
      path(net, 4, 2, 0);
      time(net, 4, 2);
      time(net, 5, 3);
    }
  }

  private static void goingFromOneNumberToAnother() {
    of("Changes", "at all times below 0 each gate has its bit for the first number; from the time 0 on each "
        + "input has its bit for the second number");
    // A gate that sees 1 for as long as the NOT is behind its input, however short that is.
    inputs(x, 0, 1);
    gate(0, NOT, 0, 0);
    gate(0, AND, 0, 1);
    x.out(0, 2);
    changes(0, 0, 1, 3, 2, 2);
    changes(0, 1, 0, 1, 1, 0);
    x.cost(AND, 9, 1);
    changes(0, 0, 1, 3, 10, 2);
    changes(0, 1, 0, 1, 1, 0);
    x.cost(AND, 1, 1);
    x.cost(NOT, 9, 1);
    changes(0, 0, 1, 3, 10, 2);
    changes(0, 1, 0, 1, 9, 0);
    x.stick(0, 1, 1);
    changes(0, 0, 1, 1, 1, 1);
    changes(0, 1, 0, 1, 1, 1);
    x.stick(0, 1, 0);
    changes(0, 0, 1, 0, 0, 0);
    x.stick(0, 1, NONE);
    x.stick(0, 2, 1);
    changes(0, 0, 1, 1, 9, 0);
    x.stick(0, 2, NONE);
    x.stick(0, 0, 0);
    changes(0, 0, 1, 0, 0, 0);
    x.stick(0, 0, 1);
    changes(0, 0, 1, 0, 0, 0);
  }

  private static void changesOfGatesAlone() {
    of("Changes", "A CHANGE is a time, 0 or more, and a gate that is no input, whose bit at that time is unlike");
    inputs(x, 0, 30);
    changes(0, 0, MOST_NUMBER, 0, 0, 0);
    outs(x, 0, 29, 16);
    changes(0, 0, MOST_NUMBER, 0, 0, 0);
    gate(0, XOR, 28, 29);
    changes(0, 0, MOST_NUMBER, 0, 0, 0);
    changes(0, 0, 1 << 29, 1, 1, 0);
    changes(0, 1 << 28, 1 << 29, 0, 0, 0);
    gate(0, NOT, 30, 0);
    changes(0, 1 << 29, 0, 2, 2, 0);
  }

  // ---- values

  private static void promise10Bit() {
    of(10, "Returns the bit of a gate for a number.");
    inputs(x, 0, 1);
    bit(0, 0, 0, 0);
    bit(0, 0, 1, 1);
    of(10, "`net`: a net");
    for (int net = 0; net < 4; net++) {
      x.input(net);
      bit(net, 0, 1, 1);
    }
    noSuchNet((l, net) -> l.bit(net, 0, 0));
    of(10, "`gate`: a gate of it");
    inputs(x, 0, 1);
    for (int gate = 1; gate < 120; gate++) {
      gate(0, XOR, 0, gate - 1);
    }
    bit(0, 0, 1, 1);
    bit(0, 119, 1, 0);
    bit(0, 118, 1, 1);
    for (int gate : NOT_OF_FULL) {
      Check.refused(Check.INDEX, "gate " + gate, () -> x.bit(0, gate, 0));
    }
    of(10, "`number`: 0 to 1073741823");
    inputs(x, 0, 30);
    for (int gate = 0; gate < 30; gate++) {
      bit(0, gate, 0, 0);
      bit(0, gate, MOST_NUMBER, 1);
      bit(0, gate, MOST_NUMBER - 1, gate == 0 ? 0 : 1);
      bit(0, gate, 1, gate == 0 ? 1 : 0);
    }
    of(10, "Returns 0 or 1.");
    inputs(x, 0, 2);
    for (int kind = AND; kind <= NOT; kind++) {
      gate(0, kind, 0, 1);
      for (int number = 0; number <= 5; number++) {
        int n = number;
        int gate = 2 + kind;
        String bit = Check.outcome(() -> x.bit(0, gate, n));
        Check.holds("a bit of kind " + kind, bit.equals("0") || bit.equals("1"));
      }
    }
  }

  private static void promise10Refused() {
    of(10, "if there is no such net or gate");
    noSuchNet((l, net) -> l.bit(net, 11, -1));
    for (int gate : new int[] {-1, 11, 12, LEAST, GREATEST}) {
      Later.refuses(Check.INDEX, "gate " + gate, Edges::some, l -> l.bit(0, gate, 0));
      for (int number : NO_NUMBERS) {
        Later.refuses(Check.INDEX, "also " + number, Edges::some, l -> l.bit(0, gate, number));
      }
    }
    Later.refuses(Check.INDEX, "a net without gates", Edges::some, l -> l.bit(3, 0, 0));
    Later.refuses(Check.INDEX, "also a number", Edges::some, l -> l.bit(3, 0, -1));
    of(10, "if number is out of range");
    for (int number : NO_NUMBERS) {
      Later.refuses(Check.ARGUMENT, "number " + number, Edges::some, l -> l.bit(0, 10, number));
      Later.refuses(Check.ARGUMENT, "number " + number, l -> full(l, 3), l -> l.bit(3, 0, number));
    }
  }

  private static void promise11And12Value() {
    of(12, "Returns the same, going back from each out, for each by itself.");
    of(11, "Returns the value of a net for a number.");
    inputs(x, 0, 1);
    gate(0, NOT, 0, 0);
    x.out(0, 1);
    x.out(0, 0);
    value(0, 0, 1);
    value(0, 1, 2);
    for (int promise = 11; promise <= 12; promise++) {
      of(promise, "`net`: a net");
      for (int net = 0; net < 4; net++) {
        x.input(net);
        x.out(net, 0);
        value(net, 1, 1);
      }
      of(promise, "`number`: 0 to 1073741823");
      inputs(x, 0, 30);
      outs(x, 0, 0, 8);
      outs(x, 0, 29, 8);
      value(0, 0, 0);
      value(0, 1, 255);
      value(0, MOST_NUMBER, 65535);
      value(0, MOST_NUMBER - 1, 65280);
      value(0, 1 << 29, 65280);
      value(0, (1 << 29) - 1, 255);
      x.input(1);
      x.out(1, 0);
      value(1, MOST_NUMBER, 1);
      value(1, MOST_NUMBER - 1, 0);
      of(promise, "Returns the value; 0 without outs.");
      value(0, 0, 0);
      value(0, MOST_NUMBER, 0);
      inputs(x, 0, 30);
      chain(x, 0, 120);
      value(0, 0, 0);
      value(0, MOST_NUMBER, 0);
      outs(x, 0, 119, 15);
      value(0, MOST_NUMBER, 32767);
      value(0, 0, 0);
      x.out(0, 30);
      value(0, MOST_NUMBER, 32767);
      value(0, 0, 32768);
      for (int gate = 0; gate < 120; gate++) {
        x.stick(0, gate, 1);
      }
      value(0, 0, 65535);
      x.clear(0);
      value(0, 0, 0);
    }
  }

  private static void promise11And12Refused() {
    for (int promise = 11; promise <= 12; promise++) {
      of(promise, "if there is no such net");
      noSuchNet((l, net) -> l.value(net, 0));
      noSuchNet((l, net) -> l.valueAnew(net, 0));
      for (int number : NO_NUMBERS) {
        noSuchNet((l, net) -> l.value(net, number));
        noSuchNet((l, net) -> l.valueAnew(net, number));
      }
      of(promise, "if number is out of range");
      for (int number : NO_NUMBERS) {
        for (int net = 0; net < 4; net++) {
          int n = net;
          String what = "number " + number + ", net " + n;
          Later.refuses(Check.ARGUMENT, what, Edges::some, l -> l.value(n, number));
          Later.refuses(Check.ARGUMENT, what, Edges::some, l -> l.valueAnew(n, number));
          Later.refuses(Check.ARGUMENT, what, Edges::empty, l -> l.value(n, number));
          Later.refuses(Check.ARGUMENT, what, Edges::empty, l -> l.valueAnew(n, number));
        }
      }
    }
  }

  // ---- areas, delays

  private static void promise13OfNet() {
    of(13, "Tells of a net.");
    some(x);
    int[] ofNet0 = {11, 4, 3, 3 * 30 + 3 * 10 + 20, 4 + 2 + 3, 2, 0};
    int[] ofNet1 = {12, 4, 4, 2 * 30 + 6 * 10, 2 + 2 + 4, 2, 0};
    int[] ofNet2 = {2, 1, 2, 40, 9, 2, 0};
    for (int what = 0; what <= 6; what++) {
      ofNet(0, what, ofNet0[what]);
      ofNet(1, what, ofNet1[what]);
      ofNet(2, what, ofNet2[what]);
      ofNet(3, what, 0);
    }
    of(13, "`net`: a net");
    for (int net = 0; net < 4; net++) {
      x.multiplier(net, 1);
      ofNet(net, 0, 3);
    }
    noSuchNet((l, net) -> l.ofNet(net, 0));
    of(13, "if there is no such net");
    noSuchNet((l, net) -> l.ofNet(net, -1));
    noSuchNet((l, net) -> l.ofNet(net, 7));
    noSuchNet((l, net) -> l.ofNet(net, LEAST));
    of(13, "if what is out of range");
    for (int what : new int[] {-1, 7, LEAST, GREATEST}) {
      for (int net = 0; net < 4; net++) {
        int n = net;
        Later.refuses(Check.ARGUMENT, "what " + what, Edges::some, l -> l.ofNet(n, what));
      }
      Later.refuses(Check.ARGUMENT, "a full net", l -> full(l, 0), l -> l.ofNet(0, what));
    }
  }

  private static void promise13LeastAndGreatest() {
    of(13, "`what`: 0 how many gates, 1 inputs, 2 outs it has, 3 its area, 4 its delay, 5 the greatest load of "
        + "a gate, 0 without gates, 6 how many gates are idle");
    for (int net = 0; net < 4; net++) {
      for (int what = 0; what <= 6; what++) {
        ofNet(net, what, 0);
      }
    }
    full(x, 3);
    counts(3, 120, 30, 16);
    for (int kind = AND; kind <= NOT; kind++) {
      x.cost(kind, 9, 99);
    }
    inputs(x, 0, 1);
    for (int gate = 1; gate < 120; gate++) {
      gate(0, XOR, 0, 0);
    }
    inputs(x, 1, 1);
    chain(x, 1, 120);
    ofNet(0, 3, 119 * 99);
    ofNet(0, 5, 238);
    ofNet(0, 6, 119);
    ofNet(1, 4, 0);
    ofNet(1, 5, 1);
    outs(x, 0, 0, 16);
    outs(x, 1, 119, 16);
    ofNet(0, 4, 0);
    ofNet(0, 5, 254);
    ofNet(0, 6, 119);
    ofNet(1, 4, 119 * 9);
    ofNet(1, 5, 16);
    ofNet(1, 6, 0);

    of(13, "Returns as told.");
    inputs(x, 2, 30);
    int[] withoutOuts = {30, 30, 0, 0, 0, 0, 0};
    int[] withOuts = {30, 30, 16, 0, 0, 16, 0};
    for (int what = 0; what <= 6; what++) {
      ofNet(2, what, withoutOuts[what]);
    }
    outs(x, 2, 29, 16);
    for (int what = 0; what <= 6; what++) {
      ofNet(2, what, withOuts[what]);
    }
  }

  private static void promise14Time() {
    of(14, "Returns the time of a gate.");
    some(x);
    int[] times = {0, 0, 0, 0, 4, 2, 4, 8, 2, 6, 9};
    for (int gate = 0; gate < times.length; gate++) {
      time(0, gate, times[gate]);
    }
    of(14, "`net`: a net");
    for (int net = 0; net < 4; net++) {
      x.multiplier(net, 1);
      time(net, 2, 1);
    }
    noSuchNet((l, net) -> l.time(net, 0));
    of(14, "`gate`: a gate of it");
    inputs(x, 0, 1);
    chain(x, 0, 120);
    time(0, 0, 0);
    time(0, 119, 119);
    for (int gate : NOT_OF_FULL) {
      Check.refused(Check.INDEX, "gate " + gate, () -> x.time(0, gate));
    }
    of(14, "Returns the time.");
    x.cost(NOT, 9, 1);
    inputs(x, 0, 1);
    chain(x, 0, 120);
    for (int gate = 0; gate < 120; gate++) {
      time(0, gate, 9 * gate);
    }
    of(14, "if there is no such net or gate");
    noSuchNet((l, net) -> l.time(net, -1));
    for (int gate : new int[] {-1, 11, 12, LEAST, GREATEST}) {
      Later.refuses(Check.INDEX, "gate " + gate + " of 11", Edges::some, l -> l.time(0, gate));
    }
    Later.refuses(Check.INDEX, "a net without gates", Edges::some, l -> l.time(3, 0));
  }

  private static void promise15Path() {
    of(15, "Returns a gate of the slowest path.");
    some(x);
    path(0, 10, 9, 6, 1);
    path(1, 10, 9, 5, 1);
    path(2, 1, 0);
    of(15, "`net`: a net");
    for (int net = 0; net < 4; net++) {
      x.multiplier(net, 1);
      path(net, 2, 0);
    }
    noSuchNet((l, net) -> l.path(net, 0));
    of(15, "if there is no such net, or place is below 0");
    noSuchNet((l, net) -> l.path(net, -1));
    noSuchNet((l, net) -> l.path(net, LEAST));
    for (int place : new int[] {-1, -2, LEAST}) {
      for (int net = 0; net < 4; net++) {
        int n = net;
        Later.refuses(Check.INDEX, "place " + place, Edges::some, l -> l.path(n, place));
      }
      Later.refuses(Check.INDEX, "a full net", l -> full(l, 0), l -> l.path(0, place));
    }
  }

  private static void promise15PlacesAndOuts() {
    of(15, "`place`: 0 for the out, and so on back");
    inputs(x, 0, 1);
    chain(x, 0, 120);
    x.out(0, 119);
    for (int place = 0; place < 120; place++) {
      int p = place;
      Check.due(119 - p, "place " + p, () -> x.path(0, p));
    }
    for (int place : new int[] {120, 121, 122, 1000, GREATEST - 1, GREATEST}) {
      Check.due(NONE, "place " + place, () -> x.path(0, place));
    }

    of(15, "Returns the gate; NONE behind the input, or without outs.");
    for (int net = 0; net < 4; net++) {
      path(net);
    }
    inputs(x, 0, 30);
    path(0);
    chain(x, 0, 120);
    path(0);
    Check.due(NONE, "the greatest place", () -> x.path(0, GREATEST));
    x.out(0, 29);
    path(0, 29);
    x.out(0, 0);
    path(0, 29);
    x.out(0, 30);
    path(0, 30, 29);
    x.out(0, 31);
    path(0, 31, 30, 29);
    Check.due(NONE, "the greatest place", () -> x.path(0, GREATEST));
  }

  // ---- changes

  private static void promise16And17Numbers() {
    of(16, "Tells of the changes of a net that goes from one number to another one.");
    of(17, "Returns the same, time by time.");
    inputs(x, 0, 1);
    gate(0, NOT, 0, 0);
    x.out(0, 1);
    changes(0, 0, 1, 1, 1, 1);
    for (int promise = 16; promise <= 17; promise++) {
      of(promise, "`net`: a net");
      for (int net = 0; net < 4; net++) {
        x.multiplier(net, 1);
        changes(net, 0, 3, 1, 1, 1);
      }
      for (String number : new String[] {"`from`: 0 to 1073741823", "`to`: 0 to 1073741823"}) {
        of(promise, number);
        inputs(x, 0, 30);
        for (int k = 0; k < 30; k++) {
          gate(0, NOT, k, 0);
        }
        outs(x, 0, 30, 1);
        outs(x, 0, 59, 2);
        changes(0, 0, MOST_NUMBER, 30, 1, 2);
        changes(0, MOST_NUMBER, 0, 30, 1, 2);
        changes(0, MOST_NUMBER, MOST_NUMBER, 0, 0, 0);
        changes(0, 0, 0, 0, 0, 0);
        changes(0, MOST_NUMBER, MOST_NUMBER - 1, 1, 1, 1);
        changes(0, 1 << 29, 0, 1, 1, 1);
        changes(0, 1 << 28, 0, 1, 1, 0);
        x.multiplier(1, 1);
        changes(1, MOST_NUMBER, MOST_NUMBER - 3, 1, 1, 1);
        changes(1, 0, MOST_NUMBER - 3, 0, 0, 0);
      }
    }
  }

  private static void promise16And17Whats() {
    of(16, "`what`: 0 how many changes there are, 1 the greatest time of one, 0 without any, 2 how many there "
        + "are of outs, each gate counted once");
    changes(0, 0, MOST_NUMBER, 0, 0, 0);
    inputs(x, 0, 1);
    changes(0, 0, 1, 0, 0, 0);
    x.out(0, 0);
    changes(0, 0, 1, 0, 0, 0);
    chain(x, 0, 120);
    changes(0, 0, 1, 119, 119, 0);
    x.out(0, 119);
    changes(0, 0, 1, 119, 119, 1);
    outs(x, 0, 119, 13);
    changes(0, 0, 1, 119, 119, 1);
    x.out(0, 64);
    changes(0, 0, 1, 119, 119, 2);
    changes(0, 1, 1, 0, 0, 0);
    x.stick(0, 1, 0);
    changes(0, 0, 1, 0, 0, 0);
    x.stick(0, 1, NONE);
    x.stick(0, 119, 0);
    changes(0, 0, 1, 118, 118, 1);
    // One gate is all the 16 outs.
    inputs(x, 1, 1);
    gate(1, NOT, 0, 0);
    outs(x, 1, 1, 16);
    changes(1, 0, 1, 1, 1, 1);

    for (int promise = 16; promise <= 17; promise++) {
      of(promise, "Returns as told.");
      // A net with all the gates, inputs and outs that it may have.
      inputs(x, 0, 30);
      for (int gate = 30; gate < 120; gate++) {
        gate(0, NOT, gate % 30, 0);
      }
      for (int place = 0; place < 16; place++) {
        x.out(0, 104 + place);
      }
      changes(0, 0, MOST_NUMBER, 90, 1, 16);
      changes(0, 0, 1 << 29, 3, 1, 1);
      changes(0, MOST_NUMBER, MOST_NUMBER - 1, 3, 1, 0);
      inputs(x, 3, 1);
      gate(3, NOT, 0, 0);
      for (int place = 0; place < 16; place++) {
        gate(3, NOT, 0, 0);
        x.out(3, 2 + place);
      }
      changes(3, 0, 1, 17, 1, 16);
    }
  }

  /** The last time that there can be, and the times round which words of 64 bits would end. */
  private static void promise16And17LatestTimes() {
    of(17, "`what`: as told");
    x.cost(NOT, 9, 1);
    inputs(x, 0, 1);
    chain(x, 0, 120);
    changes(0, 0, 1, 119, 119 * 9, 0);
    inputs(x, 1, 1);
    gate(1, NOT, 0, 0);
    gate(1, AND, 0, 1);
    chain(x, 1, 120);
    x.out(1, 119);
    changes(1, 0, 1, 1 + 2 * 118, 10 + 117 * 9, 2);
    changes(1, 1, 0, 1, 9, 0);
    x.cost(XOR, 9, 1);
    inputs(x, 2, 1);
    gate(2, XOR, 0, 0);
    x.stick(2, 1, 1);
    for (int gate = 2; gate < 120; gate++) {
      gate(2, XOR, gate - 1, 0);
    }
    changes(2, 0, 1, 118 * 119 / 2, 118 * 9, 0);

    of(16, "1 the greatest time of one");
    for (int size : new int[] {64, 65, 66, 120}) {
      x.clear(0);
      inputs(x, 0, 1);
      gate(0, NOT, 0, 0);
      gate(0, AND, 0, 1);
      chain(x, 0, size);
      changes(0, 0, 1, 1 + 2 * (size - 2), size - 1, 0);
    }
  }

  private static void promise16And17Refused() {
    for (int promise = 16; promise <= 17; promise++) {
      of(promise, "if there is no such net");
      refusedOfNoNet(0, 0, 0);
      refusedOfNoNet(-1, 0, 0);
      refusedOfNoNet(0, MOST_NUMBER + 1, 0);
      refusedOfNoNet(0, 0, 3);
      refusedOfNoNet(LEAST, GREATEST, -1);
      of(promise, "if from, to or what is out of range");
      for (int net = 0; net < 4; net++) {
        for (int number : NO_NUMBERS) {
          refusedChanges(net, number, 0, 0);
          refusedChanges(net, 0, number, 0);
          refusedChanges(net, number, number, 0);
        }
        for (int what : new int[] {-1, 3, LEAST, GREATEST}) {
          refusedChanges(net, 0, MOST_NUMBER, what);
          refusedChanges(net, -1, 0, what);
          refusedChanges(net, 0, MOST_NUMBER + 1, what);
        }
      }
    }
  }

  private static void refusedOfNoNet(int from, int to, int what) {
    noSuchNet((l, net) -> l.changes(net, from, to, what));
    noSuchNet((l, net) -> l.changesAnew(net, from, to, what));
  }

  private static void refusedChanges(int net, int from, int to, int what) {
    String call = "changes(" + net + ", " + from + ", " + to + ", " + what + ")";
    Later.refuses(Check.ARGUMENT, call, Edges::some, l -> l.changes(net, from, to, what));
    Later.refuses(Check.ARGUMENT, call, Edges::some, l -> l.changesAnew(net, from, to, what));
  }
}
