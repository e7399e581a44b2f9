/** Adders and multipliers told gate by gate, as the document's words give them. */
final class Words {
  private final GateLedger x;
  private final int net;
  private final int w;
  private int sum;
  private int carry;

  private Words(GateLedger x, int net, int w) {
    this.x = x;
    this.net = net;
    this.w = w;
  }

  static void adder(GateLedger x, int net, int form, int w) {
    Words words = new Words(x, net, w);
    words.inputs();
    if (form == GateLedger.RIPPLE) {
      words.ripple();
    } else {
      words.joined(form == GateLedger.SPREAD);
    }
  }

  static void multiplier(GateLedger x, int net, int w) {
    Words words = new Words(x, net, w);
    words.inputs();
    words.product();
  }

  /** a(k) is the gate k then, b(k) the gate w + k. */
  private void inputs() {
    for (int k = 0; k < 2 * w; k++) {
      x.input(net);
    }
  }

  private int b(int k) {
    return w + k;
  }

  private int xor(int p, int q) {
    return x.gate(net, GateLedger.XOR, p, q);
  }

  private int and(int p, int q) {
    return x.gate(net, GateLedger.AND, p, q);
  }

  private int or(int p, int q) {
    return x.gate(net, GateLedger.OR, p, q);
  }

  private void half(int p, int q) {
    sum = xor(p, q);
    carry = and(p, q);
  }

  private void full(int p, int q, int r) {
    int h = xor(p, q);
    sum = xor(h, r);
    int f = and(p, q);
    int g = and(h, r);
    carry = or(f, g);
  }

  private void ripple() {
    half(0, b(0));
    x.out(net, sum);
    for (int k = 1; k <= w - 1; k++) {
      full(k, b(k), carry);
      x.out(net, sum);
    }
    x.out(net, carry);
  }

  private void joined(boolean spread) {
    int[] made = new int[w];
    int[] p = new int[w];
    int[] g = new int[w];
    for (int k = 0; k < w; k++) {
      made[k] = xor(k, b(k));
      p[k] = made[k];
      g[k] = and(k, b(k));
    }
    for (int d = 1; d < w; d = 2 * d) {
      int[] pAhead = p.clone();
      int[] gAhead = g.clone();
      for (int k = 0; k < w; k++) {
        if (spread ? k / d % 2 == 1 : k >= d) {
          int j = spread ? k / d * d - 1 : k - d;
          int one = and(pAhead[k], gAhead[j]);
          g[k] = or(gAhead[k], one);
          p[k] = and(pAhead[k], pAhead[j]);
        }
      }
    }
    x.out(net, made[0]);
    for (int k = 1; k <= w - 1; k++) {
      x.out(net, xor(made[k], g[k - 1]));
    }
    x.out(net, g[w - 1]);
  }

  private void product() {
    int[][] m = new int[w][w];
    for (int i = 0; i < w; i++) {
      for (int k = 0; k < w; k++) {
        m[i][k] = and(k, b(i));
      }
    }
    int[] row = m[0];
    for (int i = 1; i <= w - 1; i++) {
      x.out(net, row[0]);
      int[] left = java.util.Arrays.copyOfRange(row, 1, row.length);
      int[] next = new int[w + 1];
      for (int k = 0; k < w; k++) {
        if (k == 0) {
          half(left[0], m[i][0]);
        } else if (k < left.length) {
          full(left[k], m[i][k], carry);
        } else {
          half(m[i][k], carry);
        }
        next[k] = sum;
      }
      next[w] = carry;
      row = next;
    }
    for (int gate : row) {
      x.out(net, gate);
    }
  }
}
