import java.util.Arrays;
import java.util.LinkedHashSet;
import java.util.Set;

/**
 * Part III, sentence by sentence, where it names an edge: each operator with all pairs of operands at the bounds of their
 * types, on both machines, against Java's own arithmetic; and each sentence once more with numbers by hand.
 */
public final class EdgesOfNumbersTest {
  private static final long NONE = 0x7fc00000L;
  private static final long WIDE_NONE = 0x7ff8000000000000L;
  private static final long SIGN = 0x80000000L;
  private static final long WIDE_SIGN = Long.MIN_VALUE;
  private static final long INFINITE = 0x7f800000L;
  private static final long WIDE_INFINITE = 0x7ff0000000000000L;

  private static final long[] WHOLE = whole();
  private static final long[] WIDE_WHOLE = wideWhole();
  private static final long[] FLOATING = floating();
  private static final long[] WIDE_FLOATING = wideFloating();

  public static void main(String[] args) {
    for (int op = 69; op <= 1007; op++) {
      if (op == 197) op = 1000;
      allPairs(op);
    }
    sumsFarApart();
    bitsNotLookedAt();
    compared();
    counted();
    quotients();
    shifts();
    wholeNumbers();
    leastAndGreatest();
    signsOnly();
    rounding();
    infiniteBound();
    zeros();
    towardsZero();
    saturated();
    fromWhole();
    extended();
    Kit.finish();
  }

  private static long[] whole() {
    Set<Long> out = new LinkedHashSet<>();
    for (int i : new int[] {0, 1, 7, 8, 15, 16, 24, 30, 31})
      for (long v : new long[] {(1L << i) - 1, 1L << i, (1L << i) + 1, -(1L << i)}) out.add(v & 0xffffffffL);
    for (long v : new long[] {-1, -2, 0xfffffffeL, 32, 33, 0x7ffffffeL, 0xaaaaaaaaL, 3, 10, -7}) out.add(v & 0xffffffffL);
    return out.stream().mapToLong(v -> v).toArray();
  }

  private static long[] wideWhole() {
    Set<Long> out = new LinkedHashSet<>();
    for (int i : new int[] {0, 1, 8, 16, 31, 32, 53, 62, 63}) for (long v : new long[] {(1L << i) - 1, 1L << i, (1L << i) + 1, -(1L << i)}) out.add(v);
    for (long v : new long[] {-1, -2, 24, 64, 65, Long.MAX_VALUE - 1, 0xaaaaaaaaaaaaaaaaL, 3, 10, -7, 0x7fffffbfffffffffL, 0x7fffffc000000000L,
      0xfffffffffffffbffL, 0xfffffffffffffc00L, 0xffffff7fffffffffL, 0xffffff8000000000L, 0x20000000000001L, 0x20000000000003L}) out.add(v);
    return out.stream().mapToLong(v -> v).toArray();
  }

  private static long[] floating() {
    Set<Long> out = new LinkedHashSet<>();
    float[] bases = {Float.MIN_VALUE, Float.MIN_NORMAL, 0.5f, 1, 1.5f, 2.5f, 3, 8388608, 16777216, 2147483648f, 4294967296f, 9223372036854775808f,
      18446744073709551616f, Float.MAX_VALUE, 1e19f};
    for (float b : bases)
      for (float v : new float[] {b, Math.nextUp(b), Math.nextDown(b)})
        for (float w : new float[] {v, -v}) out.add(Float.floatToRawIntBits(w) & 0xffffffffL);
    for (long v : new long[] {0, SIGN, INFINITE, INFINITE | SIGN, NONE, NONE | SIGN, 0x7f800001L, 0xffffffffL}) out.add(v);
    return out.stream().mapToLong(v -> v).toArray();
  }

  private static long[] wideFloating() {
    Set<Long> out = new LinkedHashSet<>();
    double[] bases = {Double.MIN_VALUE, Double.MIN_NORMAL, 0.5, 1, 1.5, 2.5, 3, 2147483648.0, 4294967296.0, 4503599627370496.0, 9007199254740992.0,
      9223372036854775808.0, 18446744073709551616.0, Double.MAX_VALUE, 1e154, 0x1.ffffffp127, 0x1.fffffep127, 0x1p-149, 0x1p-150, 0x1p-126};
    for (double b : bases)
      for (double v : new double[] {b, Math.nextUp(b), Math.nextDown(b)})
        for (double w : new double[] {v, -v}) out.add(Double.doubleToRawLongBits(w));
    for (double v : new double[] {2147483647.5, -2147483648.5, 4294967295.5, 0.75, 0x1.000001p0}) out.add(Double.doubleToRawLongBits(v));
    for (long v : new long[] {0, WIDE_SIGN, WIDE_INFINITE, WIDE_INFINITE | WIDE_SIGN, WIDE_NONE, WIDE_NONE | WIDE_SIGN, 0x7ff0000000000001L, -1}) out.add(v);
    return out.stream().mapToLong(v -> v).toArray();
  }

  private static long[] operands(char c) {
    return c == 'i' ? WHOLE : c == 'l' ? WIDE_WHOLE : c == 'f' ? FLOATING : WIDE_FLOATING;
  }

  private static ModuleEngine engine(int op, int tier) {
    String s = Reference.Ops.signature(op);
    int[] in = new int[s.length() - 1];
    Arrays.fill(in, Reference.kindOf(s.charAt(0)));
    byte[] operator = op < 1000 ? Kit.bytes(op) : Kit.bytes(252, op - 1000);
    byte[] code = in.length == 1 ? Kit.bytes(32, 0, operator) : Kit.bytes(32, 0, 32, 1, operator);
    ModuleEngine e = Kit.engine(Kit.simple(in, new int[] {Reference.kindOf(s.charAt(s.length() - 1))}, code));
    e.tier(tier);
    return e;
  }

  private static void check(ModuleEngine e, int op, long x, long y, boolean two, long want, int trap) {
    e.argument(x);
    if (two) e.argument(y);
    e.call(0, 0);
    int steps = e.run(9);
    boolean right = e.state(0) == (trap == 0 ? 2 : 3) && steps == (two ? 3 : 2) && (trap == 0 ? e.value(0) == want : e.state(1) == trap);
    String what = right ? "" : op + " of " + Long.toHexString(x) + ", " + Long.toHexString(y) + ": state " + e.state(0) + ", trap " + e.state(1)
      + ", value " + Long.toHexString(e.value(0)) + ", due " + trap + ", " + Long.toHexString(want);
    Kit.due(what, right, true);
  }

  private static void allPairs(int op) {
    String s = Reference.Ops.signature(op);
    boolean two = s.length() == 3;
    long[] all = operands(s.charAt(0));
    for (int tier = 0; tier < 2; tier++) {
      ModuleEngine e = engine(op, tier);
      for (long x : all) {
        for (long y : two ? all : new long[1]) {
          long want = 0;
          int trap = 0;
          try {
            want = Reference.Ops.eval(op, x, y);
          } catch (Reference.Trap t) {
            trap = t.code;
          }
          check(e, op, x, y, two, want, trap);
        }
      }
    }
  }

  private static long d(double v) { return Double.doubleToRawLongBits(v); }

  private static long f(float v) { return Float.floatToRawIntBits(v) & 0xffffffffL; }

  /** To the value that is nearest: sums of numbers so far apart that less and less of one is left. */
  private static void sumsFarApart() {
    double[] ones = {1, 1.5, 0x1.fffffffffffffp0, 0x1.0000000000001p0};
    double[] others = {1, 0x1.0000000000001p0, 0x1.fffffffffffffp0, 1.5};
    ModuleEngine[] wide = {engine(160, 0), engine(161, 1)};
    ModuleEngine[] small = {engine(146, 0), engine(147, 1)};
    for (double a : ones) {
      for (double b : others) {
        for (int apart = 0; apart < 80; apart++) {
          for (int sign = -1; sign < 2; sign += 2) {
            double y = Math.scalb(b, -apart) * sign;
            check(wide[0], 160, d(a), d(y), true, d(a + y), 0);
            check(wide[0], 160, d(y), d(a), true, d(y + a), 0);
            check(wide[1], 161, d(a), d(y), true, d(a - y), 0);
            check(wide[1], 161, d(y), d(a), true, d(y - a), 0);
            float u = (float) a;
            float v = (float) y;
            check(small[0], 146, f(u), f(v), true, f(u + v), 0);
            check(small[1], 147, f(u), f(v), true, f(u - v), 0);
          }
        }
      }
    }
    for (int apart : new int[] {100, 500, 1000, 1074})
      check(wide[0], 160, d(1), d(Math.scalb(1.0, -apart)), true, d(1), 0);
  }

  private static void gives(int op, long x, long want) {
    for (int tier = 0; tier < 2; tier++) check(engine(op, tier), op, x, 0, false, want, 0);
  }

  private static void gives(int op, long x, long y, long want) {
    for (int tier = 0; tier < 2; tier++) check(engine(op, tier), op, x, y, true, want, 0);
  }

  private static void traps(int op, long x, int trap) {
    for (int tier = 0; tier < 2; tier++) check(engine(op, tier), op, x, 0, false, 0, trap);
  }

  private static void traps(int op, long x, long y, int trap) {
    for (int tier = 0; tier < 2; tier++) check(engine(op, tier), op, x, y, true, 0, trap);
  }

  /** Those of 32 as its lowest ones (the others are 0 when told, and not looked at when given). */
  private static void bitsNotLookedAt() {
    long high = 0x1234567800000000L;
    for (int op = 69; op <= 1007; op++) {
      if (op == 197) op = 1000;
      String types = Reference.Ops.signature(op);
      char type = types.charAt(0);
      if (type == 'l' || type == 'd') continue;
      long[] some = type == 'i' ? new long[] {0, 3, 0x7fffffffL, 0x80000000L, 0xffffffffL} : new long[] {0, SIGN, f(1), f(-2.5f), INFINITE, NONE, f(3e9f)};
      ModuleEngine e = engine(op, op % 2);
      for (long x : some) {
        for (long y : types.length() == 3 ? some : new long[1]) {
          long want = 0;
          int trap = 0;
          try {
            want = Reference.Ops.eval(op, x, y);
          } catch (Reference.Trap t) {
            trap = t.code;
          }
          check(e, op, x | high, y | ~high << 32 >>> 32 << 32, types.length() == 3, want, trap);
          check(e, op, x | -1L << 32, y | high, types.length() == 3, want, trap);
        }
      }
    }
    gives(69, high, 1);
    gives(70, high | 5, 5, 1);
    gives(73, high | 5, 6, 1);
    gives(103, high | 1, 31);
    gives(104, high, 32);
    gives(105, high | 3, 2);
    gives(106, high | 0xffffffffL, 2, 1);
    gives(109, high | 7, high | 2, 3);
    traps(109, 7, high, 2);
    gives(116, high | 1, high | 33, 2);
    gives(139, high | f(-1), f(1));
    gives(146, high | f(1), f(1), f(2));
    gives(152, high | f(1), high, f(1));
    gives(168, high | f(-3), 0xfffffffdL);
    gives(172, high | 0x80000000L, 0xffffffff80000000L);
    gives(173, high | 0x80000000L, 0x80000000L);
    gives(188, high | INFINITE, INFINITE);
    gives(190, high | 9, 9);
    gives(192, high | 0x80, 0xffffff80L);
  }

  /** With and without sign. */
  private static void compared() {
    int[] less = {72, 73, 76, 77};
    int[] greater = {74, 75, 78, 79};
    for (int i = 0; i < 4; i++) {
      boolean sign = i % 2 == 0;
      int atMost = i / 2;
      gives(less[i], 0x7fffffff, 0x80000000L, sign ? 0 : 1);
      gives(less[i], 0x80000000L, 0x7fffffff, sign ? 1 : 0);
      gives(less[i], 5, 5, atMost);
      gives(greater[i], 0x7fffffff, 0x80000000L, sign ? 1 : 0);
      gives(greater[i], 0x80000000L, 0x7fffffff, sign ? 0 : 1);
      gives(greater[i], 5, 5, atMost);
      gives(less[i] + 11, Long.MAX_VALUE, Long.MIN_VALUE, sign ? 0 : 1);
      gives(less[i] + 11, Long.MIN_VALUE, Long.MAX_VALUE, sign ? 1 : 0);
      gives(greater[i] + 11, -1, 0, sign ? 0 : 1);
      gives(greater[i] + 11, 0, -1, sign ? 1 : 0);
    }
    for (int op = 91; op <= 96; op++) {
      long none = op == 92 ? 1 : 0;
      gives(op, NONE, NONE, none);
      gives(op, 0, NONE, none);
      gives(op, NONE, INFINITE, none);
      gives(op, 0, SIGN, op == 91 || op >= 95 ? 1 : 0);
      gives(op, SIGN, 0, op == 91 || op >= 95 ? 1 : 0);
      gives(op, INFINITE | SIGN, INFINITE, op == 92 || op == 93 || op == 95 ? 1 : 0);
      gives(op + 6, WIDE_NONE, WIDE_NONE, none);
      gives(op + 6, WIDE_SIGN, 0, op == 91 || op >= 95 ? 1 : 0);
    }
  }

  /** How many bits from the highest on are 0; from the lowest on; how many are 1. */
  private static void counted() {
    gives(103, 0, 32);
    gives(104, 0, 32);
    gives(105, 0, 0);
    gives(105, -1, 32);
    gives(121, 0, 64);
    gives(122, 0, 64);
    gives(123, 0, 0);
    gives(123, -1, 64);
    for (int i = 0; i < 32; i++) {
      gives(103, 1L << i, 31 - i);
      gives(104, 1L << i, i);
      gives(105, (1L << i) - 1, i);
    }
    for (int i = 0; i < 64; i++) {
      gives(121, 1L << i, 63 - i);
      gives(122, 1L << i, i);
      gives(123, (1L << i) - 1, i);
    }
  }

  /** TRAPS: 1 a quotient or remainder by 0 (whole). 2 a quotient with sign that is not there. (The remainder of the least number by -1 is 0.) */
  private static void quotients() {
    for (int op : new int[] {109, 110, 111, 112}) {
      traps(op, 1, 0, 2);
      traps(op, 0, 0, 2);
      traps(op, 0x80000000L, 0, 2);
      traps(op + 18, 1, 0, 2);
      traps(op + 18, Long.MIN_VALUE, 0, 2);
    }
    traps(109, 0x80000000L, -1, 3);
    gives(109, 0x80000001L, -1, 0x7fffffff);
    gives(109, 0x80000000L, 1, 0x80000000L);
    gives(109, 0x80000000L, -2, 0x40000000);
    gives(110, 0x80000000L, -1, 0);
    gives(111, 0x80000000L, -1, 0);
    gives(112, 0x80000000L, -1, 0x80000000L);
    traps(127, Long.MIN_VALUE, -1, 3);
    gives(127, Long.MIN_VALUE + 1, -1, Long.MAX_VALUE);
    gives(128, Long.MIN_VALUE, -1, 0);
    gives(128, -1, Long.MIN_VALUE, 1);
    gives(129, Long.MIN_VALUE, -1, 0);
    gives(130, Long.MIN_VALUE, -1, Long.MIN_VALUE);
    gives(130, -1, Long.MIN_VALUE, Long.MAX_VALUE);
    long[][] rows = {{7, 2, 3, 1}, {-7, 2, -3, -1}, {7, -2, -3, 1}, {-7, -2, 3, -1}};
    for (long[] r : rows) {
      gives(109, r[0], r[1], r[2] & 0xffffffffL);
      gives(111, r[0], r[1], r[3] & 0xffffffffL);
      gives(127, r[0], r[1], r[2]);
      gives(129, r[0], r[1], r[3]);
    }
    gives(106, 0x7fffffff, 1, 0x80000000L);
    gives(107, 0x80000000L, 1, 0x7fffffff);
    gives(108, 0x10000, 0x10000, 0);
    gives(108, 0xffffffffL, 0xffffffffL, 1);
    gives(124, Long.MAX_VALUE, 1, Long.MIN_VALUE);
    gives(126, 1L << 32, 1L << 32, 0);
  }

  /** Each by y modulo 32 (64). */
  private static void shifts() {
    for (int by : new int[] {0, 1, 31, 32, 33, 63, 64, 65, -1, -31, -32, Integer.MIN_VALUE, Integer.MAX_VALUE}) {
      int x = 0x80000003;
      gives(116, x, by, x << by & 0xffffffffL);
      gives(117, x, by, x >> by & 0xffffffffL);
      gives(118, x, by, x >>> by & 0xffffffffL);
      gives(119, x, by, Integer.rotateLeft(x, by) & 0xffffffffL);
      gives(120, x, by, Integer.rotateRight(x, by) & 0xffffffffL);
      long w = 0x8000000000000003L;
      gives(134, w, by, w << by);
      gives(135, w, by, w >> by);
      gives(136, w, by, w >>> by);
      gives(137, w, by, Long.rotateLeft(w, by));
      gives(138, w, by, Long.rotateRight(w, by));
    }
    gives(134, 1, 1L << 32 | 1, 2);
  }

  /** The least whole number that is not less; the greatest that is not greater; towards 0; the nearest, of two the even one. */
  private static void wholeNumbers() {
    double[][] rows = {{0.5, 1, 0, 0, 0}, {-0.5, -0.0, -1, -0.0, -0.0}, {1.5, 2, 1, 1, 2}, {-1.5, -1, -2, -1, -2}, {2.5, 3, 2, 2, 2}, {-2.5, -2, -3, -2, -2},
      {Double.MIN_VALUE, 1, 0, 0, 0}, {-Double.MIN_VALUE, -0.0, -1, -0.0, -0.0}, {0x1.fffffffffffffp-2, 1, 0, 0, 0}, {0x1.0000000000001p-1, 1, 0, 0, 1},
      {0x1.fffffffffffffp51, 0x1p52, 0x1.ffffffffffffep51, 0x1.ffffffffffffep51, 0x1p52}, {0x1.0000000000001p52, 0x1.0000000000001p52, 0x1.0000000000001p52,
      0x1.0000000000001p52, 0x1.0000000000001p52}, {Double.MAX_VALUE, Double.MAX_VALUE, Double.MAX_VALUE, Double.MAX_VALUE, Double.MAX_VALUE}, {0.0, 0, 0, 0, 0},
      {-0.0, -0.0, -0.0, -0.0, -0.0}, {0x1p-1022, 1, 0, 0, 0}, {0x1p-63, 1, 0, 0, 0}, {0x1p-10, 1, 0, 0, 0}};
    for (double[] r : rows) for (int k = 0; k < 4; k++) gives(155 + k, d(r[0]), d(r[1 + k]));
    float[][] small = {{0.5f, 1, 0, 0, 0}, {-0.5f, -0f, -1, -0f, -0f}, {8388607.5f, 8388608, 8388607, 8388607, 8388608}, {4194304.5f, 4194305, 4194304, 4194304, 4194304},
      {8388609, 8388609, 8388609, 8388609, 8388609}, {Float.MIN_VALUE, 1, 0, 0, 0}, {-Float.MIN_VALUE, -0f, -1, -0f, -0f}, {-0f, -0f, -0f, -0f, -0f},
      {Float.MAX_VALUE, Float.MAX_VALUE, Float.MAX_VALUE, Float.MAX_VALUE, Float.MAX_VALUE}};
    for (float[] r : small) for (int k = 0; k < 4; k++) gives(141 + k, f(r[0]), f(r[1 + k]));
    for (int k = 0; k < 5; k++) {
      gives(141 + k, INFINITE, INFINITE);
      gives(155 + k, WIDE_INFINITE, WIDE_INFINITE);
      if (k < 4) gives(141 + k, INFINITE | SIGN, INFINITE | SIGN);
      for (long none : new long[] {NONE, NONE | SIGN, 0x7f800001L, 0xffffffffL}) gives(141 + k, none, NONE);
      for (long none : new long[] {WIDE_NONE, WIDE_NONE | WIDE_SIGN, 0x7ff0000000000001L, -1}) gives(155 + k, none, WIDE_NONE);
    }
  }

  /** ZERO with sign is less than ZERO without for the lesser and the greater; with a NONE they give THE NONE. */
  private static void leastAndGreatest() {
    gives(150, 0, SIGN, SIGN);
    gives(150, SIGN, 0, SIGN);
    gives(151, 0, SIGN, 0);
    gives(151, SIGN, 0, 0);
    gives(164, 0, WIDE_SIGN, WIDE_SIGN);
    gives(164, WIDE_SIGN, 0, WIDE_SIGN);
    gives(165, 0, WIDE_SIGN, 0);
    gives(165, WIDE_SIGN, 0, 0);
    gives(150, INFINITE | SIGN, f(-Float.MAX_VALUE), INFINITE | SIGN);
    gives(151, INFINITE, f(Float.MAX_VALUE), INFINITE);
    gives(150, f(-1), f(-2), f(-2));
    gives(151, f(-1), f(-2), f(-1));
    for (int op : new int[] {146, 147, 148, 149, 150, 151}) {
      gives(op, 0xffc00001L, f(1), NONE);
      gives(op, f(1), 0x7f800001L, NONE);
      gives(op, NONE, INFINITE, NONE);
      gives(op + 14, 0xfff8000000000001L, d(1), WIDE_NONE);
      gives(op + 14, WIDE_INFINITE, 0x7ff0000000000001L, WIDE_NONE);
    }
  }

  /** 139, 140, 152 (153, 154, 166) only change the sign, whatever x is. */
  private static void signsOnly() {
    for (long x : FLOATING) {
      gives(139, x, x & 0x7fffffffL);
      gives(140, x, x ^ SIGN);
      for (long y : new long[] {0, SIGN, NONE, NONE | SIGN, INFINITE | SIGN, f(-1)}) gives(152, x, y, x & 0x7fffffffL | y & SIGN);
    }
    for (long x : new long[] {0, WIDE_SIGN, WIDE_NONE, -1, 0x7ff0000000000001L, WIDE_INFINITE, d(-1)}) {
      gives(153, x, x & Long.MAX_VALUE);
      gives(154, x, x ^ WIDE_SIGN);
      for (long y : new long[] {0, -1}) gives(166, x, y, x & Long.MAX_VALUE | y & WIDE_SIGN);
    }
  }

  /** TO ROUND: to the value that is nearest, of two the one whose lowest bit is 0. */
  private static void rounding() {
    gives(146, f(16777216), f(1), f(16777216));
    gives(146, f(16777218), f(1), f(16777220));
    gives(146, f(16777216), f(1.0000001f), f(16777218));
    gives(147, f(16777216), f(0.5f), f(16777216));
    gives(147, f(16777216), f(0.50000006f), f(16777215));
    gives(160, d(0x1p53), d(1), d(0x1p53));
    gives(160, d(0x1.0000000000001p53), d(1), d(0x1.0000000000002p53));
    gives(160, d(0x1p53), d(0x1.0000000000001p0), d(0x1.0000000000001p53));
    gives(148, 1, f(0.5f), 0);
    gives(148, 1, f(0.50000006f), 1);
    gives(148, 3, f(0.5f), 2);
    gives(148, SIGN | 1, f(0.5f), SIGN);
    gives(149, 1, f(2), 0);
    gives(149, SIGN | 3, f(2), SIGN | 2);
    gives(162, 1, d(0.5), 0);
    gives(162, 3, d(0.5), 2);
    gives(163, 1, d(-2), WIDE_SIGN);
    gives(148, 0x00800000L, f(0.5f), 0x00400000L);
    gives(148, 0x00ffffffL, f(0.5f), 0x00800000L);
    gives(182, d(0x1.000001p0), f(1));
    gives(182, d(0x1.000003p0), f(0x1.000004p0f));
    gives(182, d(0x1.0000010000001p0), f(0x1.000002p0f));
    gives(182, d(0x1p-150), 0);
    gives(182, d(0x1.0000000000001p-150), 1);
    gives(182, d(0x1.8p-149), 2);
    gives(182, d(-0x1p-1074), SIGN);
  }

  /** What is then as great as INFINITE would be, or greater, is INFINITE; with the exact number's sign. */
  private static void infiniteBound() {
    long most = f(Float.MAX_VALUE);
    gives(146, most, f(0x1p103f), INFINITE);
    gives(146, most, f(0x1.fffffep102f), most);
    gives(147, SIGN | most, f(0x1p103f), SIGN | INFINITE);
    gives(147, SIGN | most, f(0x1.fffffep102f), SIGN | most);
    gives(182, d(0x1.ffffffp127), INFINITE);
    gives(182, d(0x1.fffffefffffffp127), most);
    gives(182, d(-0x1.ffffffp127), SIGN | INFINITE);
    gives(182, d(Double.MAX_VALUE), INFINITE);
    long wide = d(Double.MAX_VALUE);
    gives(160, wide, d(0x1p970), WIDE_INFINITE);
    gives(160, wide, d(0x1.fffffffffffffp969), wide);
    gives(162, wide, d(0x1.0000000000001p0), WIDE_INFINITE);
    gives(162, d(0x1p1023), d(2), WIDE_INFINITE);
    gives(162, d(-0x1p1023), d(1.5), d(-0x1.8p1023));
    gives(163, wide, d(0.5), WIDE_INFINITE);
    gives(148, most, f(-2), SIGN | INFINITE);
  }

  /** A sum that is exactly 0 is ZERO without sign, but with sign if both have it; products and quotients have the sign that the operands' make. */
  private static void zeros() {
    long[][] sums = {{0, 0, 0}, {0, SIGN, 0}, {SIGN, 0, 0}, {SIGN, SIGN, SIGN}, {f(3), f(-3), 0}, {f(-3), f(3), 0}};
    for (long[] s : sums) {
      gives(146, s[0], s[1], s[2]);
      gives(147, s[0], s[1] ^ SIGN, s[2]);
      gives(160, s[0] << 32, s[1] << 32, s[2] << 32);
      gives(161, s[0] << 32, s[1] << 32 ^ WIDE_SIGN, s[2] << 32);
    }
    long[] signs = {0, SIGN};
    for (long a : signs) {
      for (long b : signs) {
        gives(148, a, f(5) | b, a ^ b);
        gives(149, a, f(5) | b, a ^ b);
        gives(149, f(5) | a, b, INFINITE | (a ^ b));
        gives(149, f(5) | a, INFINITE | b, a ^ b);
        gives(149, INFINITE | a, f(5) | b, INFINITE | (a ^ b));
        gives(149, INFINITE | a, b, INFINITE | (a ^ b));
        gives(148, INFINITE | a, f(5) | b, INFINITE | (a ^ b));
        gives(148, INFINITE | a, b, NONE);
        gives(148, a, INFINITE | b, NONE);
        gives(149, a, b, NONE);
        gives(149, INFINITE | a, INFINITE | b, NONE);
        gives(146, INFINITE | a, INFINITE | b, a == b ? INFINITE | a : NONE);
        gives(147, INFINITE | a, INFINITE | b, a == b ? NONE : INFINITE | a);
        gives(146, INFINITE | a, f(5) | b, INFINITE | a);
        gives(163, f(5) << 32 | a << 32, b << 32, WIDE_INFINITE | (a ^ b) << 32);
      }
      gives(145, a, a);
      gives(159, a << 32, a << 32);
    }
    gives(145, f(-1), NONE);
    gives(145, SIGN | 1, NONE);
    gives(145, INFINITE | SIGN, NONE);
    gives(159, d(-Double.MIN_VALUE), WIDE_NONE);
    gives(159, d(Double.MIN_VALUE), d(0x1p-537));
    gives(145, 1, f(0x1.6a09e6p-75f));
    gives(182, WIDE_SIGN, SIGN);
    gives(187, SIGN, WIDE_SIGN);
    for (int op : new int[] {178, 179, 180, 181, 183, 184, 185, 186}) gives(op, 0, 0);
  }

  private static void whole(int op, double last, double first, long want) {
    boolean wide = op == 170 || op == 171 || op == 176 || op == 177;
    int saturated = op < 174 ? op - 168 + 1000 : op - 170 + 1000;
    gives(op, wide ? d(last) : f((float) last), want);
    traps(op, wide ? d(first) : f((float) first), 3);
    gives(saturated, wide ? d(last) : f((float) last), want);
  }

  /** 168 .. 171, 174 .. 177 of a number that, towards 0, is not there: the last that is, and the first that is not. */
  private static void towardsZero() {
    whole(168, 0x1.fffffep30, 0x1p31, 0x7fffff80L);
    whole(168, -0x1p31, -0x1.000002p31, 0x80000000L);
    whole(169, 0x1.fffffep31, 0x1p32, 0xffffff00L);
    whole(169, -0x1.fffffep-1, -1, 0);
    whole(170, 2147483647.9999998, 2147483648.0, 0x7fffffffL);
    whole(170, -2147483648.9999995, -2147483649.0, 0x80000000L);
    whole(171, 4294967295.9999995, 4294967296.0, 0xffffffffL);
    whole(171, -0.9999999999999999, -1, 0);
    whole(174, 0x1.fffffep62, 0x1p63, 0x7fffff8000000000L);
    whole(174, -0x1p63, -0x1.000002p63, Long.MIN_VALUE);
    whole(175, 0x1.fffffep63, 0x1p64, 0xffffff0000000000L);
    whole(175, -0x1.fffffep-1, -1, 0);
    whole(176, 0x1.fffffffffffffp62, 0x1p63, 0x7ffffffffffffc00L);
    whole(176, -0x1p63, -0x1.0000000000001p63, Long.MIN_VALUE);
    whole(177, 0x1.fffffffffffffp63, 0x1p64, 0xfffffffffffff800L);
    whole(177, -0.9999999999999999, -1, 0);
    for (int op : new int[] {168, 169, 174, 175}) {
      traps(op, INFINITE, 3);
      traps(op, INFINITE | SIGN, 3);
      traps(op, NONE, 4);
      traps(op, 0xff800001L, 4);
      traps(op, f(Float.MAX_VALUE), 3);
      gives(op, SIGN, 0);
      gives(op, 1, 0);
      traps(op + 2, WIDE_INFINITE, 3);
      traps(op + 2, WIDE_INFINITE | WIDE_SIGN, 3);
      traps(op + 2, WIDE_NONE, 4);
      traps(op + 2, -1, 4);
      gives(op + 2, WIDE_SIGN | 1, 0);
    }
  }

  /** 200 .. 207: what would be a TRAP is 0 for NONE, otherwise the least or greatest number there is. */
  private static void saturated() {
    long[][] bounds = {{0x80000000L, 0x7fffffffL}, {0, 0xffffffffL}, {0x80000000L, 0x7fffffffL}, {0, 0xffffffffL},
      {Long.MIN_VALUE, Long.MAX_VALUE}, {0, -1}, {Long.MIN_VALUE, Long.MAX_VALUE}, {0, -1}};
    for (int k = 0; k < 8; k++) {
      boolean wide = (k & 2) != 0;
      gives(1000 + k, wide ? WIDE_NONE : NONE, 0);
      gives(1000 + k, wide ? -1 : 0xffffffffL, 0);
      gives(1000 + k, wide ? WIDE_INFINITE : INFINITE, bounds[k][1]);
      gives(1000 + k, wide ? WIDE_INFINITE | WIDE_SIGN : INFINITE | SIGN, bounds[k][0]);
      gives(1000 + k, wide ? d(1e30) : f(1e30f), bounds[k][1]);
      gives(1000 + k, wide ? d(-1e30) : f(-1e30f), bounds[k][0]);
      gives(1000 + k, wide ? d(-1) : f(-1), (k & 1) == 1 ? 0 : k < 4 ? 0xffffffffL : -1);
      double first = k < 4 ? (k & 1) == 1 ? 0x1p32 : 0x1p31 : (k & 1) == 1 ? 0x1p64 : 0x1p63;
      gives(1000 + k, wide ? d(first) : f((float) first), bounds[k][1]);
    }
  }

  /** 178 .. 181, 183 .. 186, rounded once. */
  private static void fromWhole() {
    gives(178, 0x80000000L, f(-0x1p31f));
    gives(179, 0x80000000L, f(0x1p31f));
    gives(179, 0xffffffffL, f(0x1p32f));
    gives(178, 16777217, f(16777216));
    gives(178, 16777219, f(16777220));
    gives(178, -16777217, f(-16777216));
    gives(180, 0x7fffffbfffffffffL, f(0x1.fffffep62f));
    gives(180, 0x7fffffc000000000L, f(0x1p63f));
    gives(180, Long.MIN_VALUE, f(-0x1p63f));
    gives(181, Long.MIN_VALUE, f(0x1p63f));
    gives(181, 0xffffff7fffffffffL, f(0x1.fffffep63f));
    gives(181, 0xffffff8000000000L, f(0x1p64f));
    gives(181, 0x8000008000000001L, f(0x1.000002p63f));
    gives(181, 0x8000008000000000L, f(0x1p63f));
    gives(181, -1, f(0x1p64f));
    gives(185, Long.MAX_VALUE, d(0x1p63));
    gives(185, Long.MIN_VALUE, d(-0x1p63));
    gives(185, 9007199254740993L, d(9007199254740992.0));
    gives(186, -1, d(0x1p64));
    gives(186, 0xfffffffffffffbffL, d(0x1.fffffffffffffp63));
    gives(186, 0xfffffffffffffc00L, d(0x1p64));
    gives(186, 0x8000000000000401L, d(0x1.0000000000001p63));
    gives(186, 0x8000000000000400L, d(0x1p63));
    gives(183, 0xffffffffL, d(-1));
    gives(184, 0xffffffffL, d(4294967295.0));
    for (long none : new long[] {NONE | SIGN, 0x7f800001L}) gives(187, none, WIDE_NONE);
    for (long none : new long[] {WIDE_NONE | WIDE_SIGN, 0x7ff0000000000001L}) gives(182, none, NONE);
    gives(187, INFINITE | SIGN, WIDE_INFINITE | WIDE_SIGN);
    gives(182, WIDE_INFINITE, INFINITE);
    gives(187, 1, d(0x1p-149));
    gives(187, 0x007fffffL, d(0x1.fffffcp-127));
  }

  /** 167, 172, 173; 188 .. 191 the same bits; 192 .. 196 the lowest bits with sign. */
  private static void extended() {
    gives(167, 0x1ffffffffL, 0xffffffffL);
    gives(167, 1L << 32, 0);
    gives(172, 0x7fffffffL, 0x7fffffffL);
    gives(172, 0x80000000L, 0xffffffff80000000L);
    gives(173, 0xffffffffL, 0xffffffffL);
    for (long bits : new long[] {0, SIGN, NONE, 0xffffffffL, 0x7f800001L}) {
      gives(188, bits, bits);
      gives(190, bits, bits);
    }
    for (long bits : new long[] {0, WIDE_SIGN, WIDE_NONE, -1, 0x7ff0000000000001L}) {
      gives(189, bits, bits);
      gives(191, bits, bits);
    }
    int[] ops = {192, 193, 194, 195, 196};
    int[] bits = {8, 16, 8, 16, 32};
    for (int i = 0; i < 5; i++) {
      long half = 1L << bits[i] - 1;
      long mask = i < 2 ? 0xffffffffL : -1;
      gives(ops[i], half - 1, half - 1);
      gives(ops[i], half, -half & mask);
      gives(ops[i], 2 * half - 1, mask);
      gives(ops[i], 2 * half, 0);
      gives(ops[i], 2 * half + 1, 1);
    }
  }
}
