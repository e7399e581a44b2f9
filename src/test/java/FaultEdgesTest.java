/** The edges of faults and digits: promises 18 to 21, and the terms of them. */
public final class FaultEdgesTest extends Edges {
  /** All sums, and all products, of two numbers from 0 to 63 together. */
  private static final int SUMS = 2 * 64 * 2016;
  private static final int PRODUCTS = 2016 * 2016;
  /** How many of the 63 by 63 products of two numbers above 0 are multiples of 99. */
  private static final int TIMES_99 = 97;
  private static final int[] NO_OPERATIONS = {-1, 2, LEAST, GREATEST};

  public static void main(String[] args) {
    heldAgainst();
    offAndUnseen();
    digitsByFour();
    promise18Off();
    promise18LeastAndGreatest();
    heldWithAllGatesAndOuts();
    promise18And19Inputs();
    promise18Refused();
    promise19Unseen();
    promise19Refused();
    promise20Unlike();
    promise20Inputs();
    promise20Refused();
    promise21Digit();
    promise21Refused();
    Document.allNamed("FaultEdgesTest");
    Check.end("FaultEdgesTest");
  }

  // ---- terms

  private static void heldAgainst() {
    of("Faults", "A net with 2, 4, 6, 8, 10 or 12 inputs can be held against an OPERATION");
    for (int half = 1; half <= 6; half++) {
      x.clear(0);
      inputs(x, 0, 2 * half);
      int most = (1 << half) - 1;
      int all = most * (most + 1) / 2;
      int firstOfUpper = 1 << half;
      off(0, PLUS, firstOfUpper * firstOfUpper - 1, 2 * most, 2 * firstOfUpper * all, 1);
      off(0, TIMES, most * most, most * most, all * all, firstOfUpper + 1);
    }

    of("Faults", "x is the number of the lower half of the bits, y that of the upper half");
    inputs(x, 0, 4);
    outs(x, 0, 2, 1);
    outs(x, 0, 3, 1);
    // The value is y: it is off by x.
    off(0, PLUS, 12, 3, 4 * 6, 1);
    x.clear(0);
    inputs(x, 0, 4);
    outs(x, 0, 0, 1);
    outs(x, 0, 1, 1);
    // The value is x: it is off by y.
    off(0, PLUS, 12, 3, 4 * 6, 4);
    // And held against x times y by x times what y and 1 are apart.
    off(0, TIMES, 3 * 3, 6, 6 * (1 + 0 + 1 + 2), 1);
  }

  private static void offAndUnseen() {
    of("Faults", "The net is OFF for n by how far its value and that are apart, if that is above 0.");
    x.adder(0, RIPPLE, 1);
    off(0, PLUS, 0, 0, 0, NONE);
    x.stick(0, 2, 0);
    off(0, PLUS, 2, 1, 2, 1);
    x.stick(0, 2, 1);
    off(0, PLUS, 2, 1, 2, 0);
    x.stick(0, 2, NONE);
    x.stick(0, 0, 1);
    off(0, PLUS, 2, 1, 2, 0);
    x.stick(0, 0, 0);
    off(0, PLUS, 2, 1, 2, 1);

    of("Faults", "A number for which it is off is UNSEEN by m, if the value and what is due leave the same");
    x.adder(0, RIPPLE, 1);
    for (int m = 2; m <= 99; m++) {
      unseen(0, PLUS, m, 0);
    }
    x.stick(0, 3, 1);
    off(0, PLUS, 3, 2, 6, 0);
    unseen(0, PLUS, 2, 3);
    unseen(0, PLUS, 3, 0);
    x.stick(0, 2, 1);
    // Off by 3, 2, 2 and 1.
    unseen(0, PLUS, 2, 2);
    unseen(0, PLUS, 3, 1);
    unseen(0, PLUS, 4, 0);
  }

  private static void digitsByFour() {
    of("Digits", "the digit k is the bit 2 k, and the bit 2 k - 1 (0 for k being 0), together, less twice the bit 2 k + 1");
    digits(0);
    digits(1, 1);
    digits(2, -2, 1);
    digits(3, -1, 1);
    digits(4, 0, 1);
    digits(6, -2, 2);
    digits(7, -1, 2);
    digits(8, 0, -2, 1);
    digits(1 << 29, 0, 0, 0, 0, 0, 0, 0, 0, 0, 0, 0, 0, 0, 0, -2, 1);
    digits(1 << 30, 0, 0, 0, 0, 0, 0, 0, 0, 0, 0, 0, 0, 0, 0, 0, 1);
    digits(3 << 29, 0, 0, 0, 0, 0, 0, 0, 0, 0, 0, 0, 0, 0, 0, -2, 2);
    digits(0x55555555, 1, 1, 1, 1, 1, 1, 1, 1, 1, 1, 1, 1, 1, 1, 1, 1);
    digits(0x2AAAAAAA, -2, -1, -1, -1, -1, -1, -1, -1, -1, -1, -1, -1, -1, -1, -1, 1);
    digits(MOST_NUMBER, -1, 0, 0, 0, 0, 0, 0, 0, 0, 0, 0, 0, 0, 0, 0, 1);
    digits(GREATEST, -1, 0, 0, 0, 0, 0, 0, 0, 0, 0, 0, 0, 0, 0, 0, 2);
  }

  // ---- faults

  private static void promise18Off() {
    of(18, "Holds a net against an operation, with the gates that stick.");
    x.adder(0, JUMP, 6);
    off(0, PLUS, 0, 0, 0, NONE);
    x.stick(0, 0, 1);
    off(0, PLUS, 2048, 1, 2048, 0);
    x.stick(0, 11, 0);
    off(0, PLUS, 1024 + 2048, 32, 1024 + 1024 * 32 + 1024 * 31, 0);

    of(18, "`net`: a net");
    for (int net = 0; net < 4; net++) {
      x.adder(net, RIPPLE, 1);
      x.stick(net, 3, 1);
      off(net, PLUS, 3, 2, 6, 0);
    }
    noSuchNet((l, net) -> l.off(net, PLUS, 0));

    of(18, "`operation`: PLUS or TIMES");
    x.adder(0, SPREAD, 1);
    x.multiplier(1, 1);
    off(0, PLUS, 0, 0, 0, NONE);
    off(0, TIMES, 3, 1, 3, 1);
    off(1, PLUS, 3, 1, 3, 1);
    off(1, TIMES, 0, 0, 0, NONE);
    for (int operation : NO_OPERATIONS) {
      Check.refused(Check.ARGUMENT, "operation " + operation, () -> x.off(0, operation, 0));
    }
    of(18, "Returns as told.");
    some(x);
    // M(0, 1) sticks at 1, and should not for 12 of the 16 numbers.
    off(1, TIMES, 12, 2, 24, 0);
  }

  private static void promise18LeastAndGreatest() {
    of(18, "`what`: 0 for how many numbers it is off, 1 the greatest by how much, 0 without any, 2 by how much "
        + "for all of them together, 3 the least number for which it is, NONE without any");
    x.adder(0, RIPPLE, 6);
    off(0, PLUS, 0, 0, 0, NONE);
    x.multiplier(1, 4);
    off(1, TIMES, 0, 0, 0, NONE);
    inputs(x, 2, 12);
    off(2, PLUS, 4095, 126, SUMS, 1);
    off(2, TIMES, 63 * 63, 63 * 63, PRODUCTS, 65);
    outs(x, 2, 0, 16);
    x.stick(2, 0, 1);
    off(2, PLUS, 4096, 65535, 4096 * 65535 - SUMS, 0);
    off(2, TIMES, 4096, 65535, 4096 * 65535 - PRODUCTS, 0);
    x.stick(2, 0, 0);
    off(2, PLUS, 4095, 126, SUMS, 1);

    // One number alone is off: the greatest one, then the least one.
    gate(0, AND, 0, 1);
    for (int k = 2; k < 12; k++) {
      gate(0, AND, 37 + k, k);
    }
    x.out(0, 49);
    off(0, PLUS, 1, 128, 128, 4095);
    x.adder(3, RIPPLE, 6);
    gate(3, OR, 0, 1);
    for (int k = 2; k < 12; k++) {
      gate(3, OR, 37 + k, k);
    }
    gate(3, NOT, 49, 0);
    x.out(3, 50);
    off(3, PLUS, 1, 128, 128, 0);
  }

  /** The value is 65535 where the highest bit of y is 1, otherwise 0. */
  private static void heldWithAllGatesAndOuts() {
    int sumsOfLowY = 32 * 2016 + 64 * 496;
    int sumsOfHighY = SUMS - sumsOfLowY;
    int productsOfLowY = 2016 * 496;
    int productsOfHighY = PRODUCTS - productsOfLowY;
    for (int promise = 18; promise <= 19; promise++) {
      of(promise, promise == 18 ? "Holds a net against an operation" : "Counts the numbers that are unseen.");
      inputs(x, 0, 12);
      chain(x, 0, 120);
      outs(x, 0, 119, 16);
      counts(0, 120, 12, 16);
      int ofSums = sumsOfLowY + 2048 * 65535 - sumsOfHighY;
      off(0, PLUS, 4095, 65535 - 32, ofSums, 1);
      int ofProducts = productsOfLowY + 2048 * 65535 - productsOfHighY;
      off(0, TIMES, 63 * 31 + 2048, 65535, ofProducts, 65);
      // With a low y the sum is even, and not 0; with a high one it is odd, as 65535 is.
      unseen(0, PLUS, 2, 1023 + 1024);
      unseen(0, TIMES, 2, 63 * 31 - 32 * 16 + 32 * 16);
    }
    of(20, "`other`: a net, perhaps the same");
    for (int net = 0; net < 2; net++) {
      inputs(x, net, 12);
      chain(x, net, 120);
      outs(x, net, 119 - 2 * net, 16);
    }
    unlike(0, 1, NONE);
    unlike(1, 1, NONE);
    x.stick(1, 117, 0);
    unlike(0, 1, 2048);
    x.stick(1, 117, 1);
    unlike(0, 1, 0);
  }

  private static void promise18And19Inputs() {
    for (int promise = 18; promise <= 19; promise++) {
      of(promise, "if it has not 2, 4, 6, 8, 10 or 12 inputs");
      for (int inputs = 0; inputs <= 30; inputs++) {
        int i = inputs;
        boolean right = i == 2 || i == 4 || i == 6 || i == 8 || i == 10 || i == 12;
        if (right) {
          int numbers = 1 << i;
          off(0, PLUS, numbers - 1);
          unseen(0, PLUS, 2, numbers / 2 - 1);
        } else {
          refusedOfInputs(i, PLUS, 0, 2);
          refusedOfInputs(i, TIMES, 3, 99);
        }
        if (i < 30) {
          x.input(0);
        }
      }
      Later.refuses(Check.STATE, "30 of 120 gates", l -> full(l, 0), l -> l.off(0, PLUS, 0));
      Later.refuses(Check.STATE, "30 of 120 gates", l -> full(l, 0), l -> l.unseen(0, PLUS, 2));
      inputs(x, 1, 2);
      chain(x, 1, 120);
      off(1, PLUS, 3, 2, 4, 1);
      unseen(1, PLUS, 2, 1);
    }
  }

  private static void refusedOfInputs(int inputs, int operation, int what, int m) {
    String text = inputs + " inputs";
    Later.Setup setup = l -> inputs(l, 0, inputs);
    Later.refuses(Check.STATE, text, setup, l -> l.off(0, operation, what));
    Later.refuses(Check.STATE, text, setup, l -> l.unseen(0, operation, m));
  }

  private static void promise18Refused() {
    of(18, "if there is no such net");
    noSuchNet((l, net) -> l.off(net, 2, 0));
    noSuchNet((l, net) -> l.off(net, PLUS, 4));
    noSuchNet((l, net) -> l.off(net, LEAST, LEAST));
    for (int net : NO_NETS) {
      Later.refuses(Check.INDEX, "30 inputs", Edges::allFull, l -> l.off(net, PLUS, 0));
      Later.refuses(Check.INDEX, "30 inputs, what", Edges::allFull, l -> l.off(net, PLUS, -1));
    }
    of(18, "if operation or what is out of range");
    int[] noWhats = {-1, 4, LEAST, GREATEST};
    for (int net = 0; net < 4; net++) {
      // The nets 2 and 3 of some have 1 and no inputs: the state is wrong too.
      int n = net;
      for (int operation : NO_OPERATIONS) {
        for (int what : new int[] {0, 3, -1, 4}) {
          Later.refuses(Check.ARGUMENT, "off(" + n + ", " + operation + ", " + what + ")",
              Edges::some, l -> l.off(n, operation, what));
        }
      }
      for (int what : noWhats) {
        Later.refuses(Check.ARGUMENT, "what " + what, Edges::some, l -> l.off(n, PLUS, what));
        Later.refuses(Check.ARGUMENT, "what " + what, Edges::some, l -> l.off(n, TIMES, what));
      }
    }
    Later.refuses(Check.ARGUMENT, "30 inputs", l -> full(l, 1), l -> l.off(1, TIMES, 4));
    Later.refuses(Check.ARGUMENT, "30 inputs", l -> full(l, 1), l -> l.off(1, 2, 0));
  }

  private static void promise19Unseen() {
    of(19, "Counts the numbers that are unseen.");
    inputs(x, 0, 2);
    unseen(0, PLUS, 2, 1);
    unseen(0, PLUS, 3, 0);
    unseen(0, TIMES, 2, 0);
    of(19, "`net`: a net");
    for (int net = 0; net < 4; net++) {
      inputs(x, net, 2);
      unseen(net, PLUS, 2, 1);
    }
    noSuchNet((l, net) -> l.unseen(net, PLUS, 2));
    of(19, "`operation`: PLUS or TIMES");
    inputs(x, 0, 4);
    unseen(0, PLUS, 3, 5);
    unseen(0, TIMES, 3, 5);
    unseen(0, PLUS, 9, 0);
    unseen(0, TIMES, 9, 1);
    for (int operation : NO_OPERATIONS) {
      Check.refused(Check.ARGUMENT, "operation " + operation, () -> x.unseen(0, operation, 2));
    }
    of(19, "`m`: 2 to 99");
    inputs(x, 0, 12);
    unseen(0, PLUS, 2, 2047);
    unseen(0, PLUS, 98, 29);
    unseen(0, PLUS, 99, 28);
    unseen(0, TIMES, 2, 63 * 63 - 32 * 32);
    unseen(0, TIMES, 99, TIMES_99);
    for (int m : new int[] {1, 0, -1, -2, 100, LEAST, GREATEST}) {
      Later.refuses(Check.ARGUMENT, "m " + m, Edges::some, l -> l.unseen(0, PLUS, m));
      Later.refuses(Check.ARGUMENT, "m " + m, Edges::some, l -> l.unseen(1, TIMES, m));
    }
    of(19, "Returns how many.");
    inputs(x, 0, 12);
    outs(x, 0, 0, 16);
    x.stick(0, 0, 1);
    // Off by 65535 less the sum, and 65535 is odd: the sum is odd too.
    unseen(0, PLUS, 2, 2048);
    x.stick(0, 0, 0);
    unseen(0, PLUS, 2, 2047);
    x.adder(1, RIPPLE, 6);
    unseen(1, PLUS, 2, 0);
    x.out(1, 12);
    // Off by 128 for each of the 2048 numbers with unlike lowest bits, and for no other one.
    for (int m = 2; m <= 99; m++) {
      unseen(1, PLUS, m, 128 % m == 0 ? 2048 : 0);
    }
    inputs(x, 2, 2);
    outs(x, 2, 0, 16);
    x.stick(2, 0, 1);
    // Off by 65535, 65534, 65534 and 65533.
    int[][] due = {{2, 2}, {3, 1}, {4, 0}, {5, 1}, {7, 2}, {13, 1}, {31, 2}, {71, 1}, {85, 1}, {99, 0}};
    for (int[] of : due) {
      unseen(2, PLUS, of[0], of[1]);
    }
  }

  private static void promise19Refused() {
    of(19, "if there is no such net");
    noSuchNet((l, net) -> l.unseen(net, 2, 2));
    noSuchNet((l, net) -> l.unseen(net, PLUS, 1));
    noSuchNet((l, net) -> l.unseen(net, LEAST, GREATEST));
    for (int net : NO_NETS) {
      Later.refuses(Check.INDEX, "30 inputs", Edges::allFull, l -> l.unseen(net, PLUS, 2));
      Later.refuses(Check.INDEX, "30 inputs, m", Edges::allFull, l -> l.unseen(net, PLUS, 0));
    }
    of(19, "if operation or m is out of range");
    for (int net = 0; net < 4; net++) {
      // The nets 2 and 3 of some have 1 and no inputs: the state is wrong too.
      int n = net;
      for (int operation : NO_OPERATIONS) {
        for (int m : new int[] {2, 99, 1, 100}) {
          Later.refuses(Check.ARGUMENT, "unseen(" + n + ", " + operation + ", " + m + ")",
              Edges::some, l -> l.unseen(n, operation, m));
        }
      }
      for (int m : new int[] {1, 0, -1, 100, LEAST, GREATEST}) {
        Later.refuses(Check.ARGUMENT, "m " + m, Edges::some, l -> l.unseen(n, TIMES, m));
      }
    }
    Later.refuses(Check.ARGUMENT, "30 inputs", l -> full(l, 1), l -> l.unseen(1, TIMES, 0));
    Later.refuses(Check.ARGUMENT, "30 inputs", l -> full(l, 1), l -> l.unseen(1, 2, 2));
  }

  private static void promise20Unlike() {
    of(20, "Returns the least number for which two nets, with the gates that stick, have unlike values, of "
        + "those that have bits for their inputs alone.");
    for (int net = 0; net < 2; net++) {
      x.multiplier(net, 2);
    }
    unlike(0, 1, NONE);
    x.stick(0, 0, 0);
    unlike(0, 1, 5);
    unlike(1, 0, 5);
    x.stick(1, 0, 0);
    unlike(0, 1, NONE);
    x.stick(1, 4, 1);
    unlike(0, 1, 0);
    // An out more counts for numbers alone for which its bit is 1.
    x.clear(0);
    x.clear(1);
    inputs(x, 0, 1);
    inputs(x, 1, 1);
    x.out(0, 0);
    unlike(0, 1, 1);
    unlike(1, 0, 1);
    x.stick(0, 0, 0);
    unlike(0, 1, NONE);

    for (String words : new String[] {"`net`: a net", "`other`: a net, perhaps the same"}) {
      of(20, words);
      for (int net = 0; net < 4; net++) {
        inputs(x, net, 2);
        x.out(net, 0);
        unlike(net, net, NONE);
      }
      x.stick(3, 0, 1);
      for (int net = 0; net < 3; net++) {
        unlike(net, 3, 0);
        unlike(3, net, 0);
        unlike(net, 0, NONE);
      }
      unlike(3, 3, NONE);
    }
    noSuchNet((l, net) -> l.unlike(net, 0));
    noSuchNet((l, net) -> l.unlike(0, net));
  }

  private static void promise20Inputs() {
    of(20, "Returns the number; NONE without one.");
    unlike(0, 1, NONE);
    for (int inputs = 1; inputs <= 12; inputs++) {
      x.input(0);
      x.input(1);
      unlike(0, 1, NONE);
    }
    // The net 0 answers 1 for the number 4095 alone.
    gate(0, AND, 0, 1);
    for (int k = 2; k < 12; k++) {
      gate(0, AND, 10 + k, k);
    }
    x.out(0, 22);
    unlike(0, 1, 4095);
    unlike(1, 0, 4095);
    for (int k = 11; k >= 0; k--) {
      x.stick(0, k, 1);
      unlike(0, 1, (1 << k) - 1);
    }
    unlike(0, 0, NONE);

    of(20, "of those that have bits for their inputs alone.");
    for (int inputs = 1; inputs <= 12; inputs++) {
      x.clear(0);
      x.clear(1);
      inputs(x, 0, inputs);
      inputs(x, 1, inputs);
      x.out(0, inputs - 1);
      unlike(0, 1, 1 << inputs - 1);
      x.stick(0, inputs - 1, 0);
      unlike(0, 1, NONE);
    }
  }

  private static void promise20Refused() {
    of(20, "if there is no such net, of either");
    for (int net : NO_NETS) {
      for (int other : new int[] {0, 3, -1, 4, LEAST, GREATEST}) {
        String what = net + " and " + other;
        Later.refuses(Check.INDEX, what, Edges::some, l -> l.unlike(net, other));
        Later.refuses(Check.INDEX, what, Edges::some, l -> l.unlike(other, net));
        Later.refuses(Check.INDEX, what + ", 30 inputs", Edges::allFull, l -> l.unlike(net, other));
        Later.refuses(Check.INDEX, what + ", 30 inputs", Edges::allFull, l -> l.unlike(other, net));
      }
    }
    of(20, "if they have not as many inputs, or more than 12");
    for (int inputs = 0; inputs <= 13; inputs++) {
      int i = inputs;
      Later.Setup setup = l -> {
        inputs(l, 0, i);
        inputs(l, 1, i + 1);
      };
      Later.refuses(Check.STATE, i + " and one more", setup, l -> l.unlike(0, 1));
      Later.refuses(Check.STATE, "one more and " + i, setup, l -> l.unlike(1, 0));
    }
    for (int inputs : new int[] {13, 14, 29, 30}) {
      Later.Setup setup = l -> {
        inputs(l, 0, inputs);
        inputs(l, 1, inputs);
      };
      Later.refuses(Check.STATE, inputs + " twice", setup, l -> l.unlike(0, 1));
      Later.refuses(Check.STATE, inputs + ", the same net", setup, l -> l.unlike(0, 0));
      Later.refuses(Check.STATE, inputs + " and none", setup, l -> l.unlike(0, 3));
    }
    // As many gates, but not as many inputs; and as many inputs, but not as many gates.
    inputs(x, 0, 2);
    inputs(x, 1, 1);
    gate(1, NOT, 0, 0);
    Check.refused(Check.STATE, "as many gates", () -> x.unlike(0, 1));
    inputs(x, 1, 1);
    unlike(0, 1, NONE);
  }

  // ---- digits

  private static void promise21Digit() {
    of(21, "Returns a digit by four.");
    Check.due(-2, "the digit 1 of 8", () -> x.digit(8, 1));
    of(21, "`number`: 0 to 2147483647");
    digits(0);
    digits(GREATEST, -1, 0, 0, 0, 0, 0, 0, 0, 0, 0, 0, 0, 0, 0, 0, 2);
    digits(GREATEST - 1, -2, 0, 0, 0, 0, 0, 0, 0, 0, 0, 0, 0, 0, 0, 0, 2);
    for (int number : new int[] {-1, -2, LEAST, LEAST + 1}) {
      for (int place = 0; place <= 15; place++) {
        int p = place;
        Check.refused(Check.ARGUMENT, "digit(" + number + ", " + p + ")", () -> x.digit(number, p));
      }
    }
    of(21, "`place`: 0 to 15");
    Check.due(1, "the digit 0 of 1", () -> x.digit(1, 0));
    Check.due(0, "the digit 15 of 1", () -> x.digit(1, 15));
    Check.due(1, "the digit 15", () -> x.digit(1 << 29, 15));
    Check.due(-2, "the digit 14", () -> x.digit(1 << 29, 14));
    for (int place : new int[] {-1, 16, LEAST, GREATEST}) {
      for (int number : new int[] {0, 1, GREATEST}) {
        Check.refused(Check.INDEX, "digit(" + number + ", " + place + ")", () -> x.digit(number, place));
      }
    }
    of(21, "Returns -2 to 2.");
    int[][] whole = {{2, -2}, {3, -1}, {0, 0}, {1, 1}};
    for (int[] of : whole) {
      Check.due(of[1], "the digit 0 of " + of[0], () -> x.digit(of[0], 0));
    }
    int[] withLower = {0, 0, 1, 1, 1, 1, 2, 2, -2, -2, -1, -1, -1, -1, 0, 0};
    for (int number = 0; number < 16; number++) {
      int n = number;
      Check.due(withLower[n], "the digit 1 of " + n, () -> x.digit(n, 1));
      Check.due(withLower[n], "the digit 14 of " + n, () -> x.digit(n << 26, 14));
    }
  }

  private static void promise21Refused() {
    of(21, "if there is no such place");
    for (int place : new int[] {-1, 16, LEAST, GREATEST}) {
      Later.refuses(Check.INDEX, "place " + place, Edges::some, l -> l.digit(0, place));
      Later.refuses(Check.INDEX, "also -1", Edges::some, l -> l.digit(-1, place));
      Later.refuses(Check.INDEX, "also the least", Edges::some, l -> l.digit(LEAST, place));
    }
    of(21, "if number is below 0");
    Later.refuses(Check.ARGUMENT, "-1", Edges::some, l -> l.digit(-1, 0));
    Later.refuses(Check.ARGUMENT, "the least", Edges::some, l -> l.digit(LEAST, 15));
  }
}
