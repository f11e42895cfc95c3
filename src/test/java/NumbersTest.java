import java.util.Random;

/** Part III by call() and value(): each operator on both machines, against Java's own arithmetic and against rows by hand. */
public final class NumbersTest {
  private static final long[] WHOLE = {0, 1, 2, 3, 7, 10, 31, 32, 33, 63, 64, 65, 127, 128, 255, 256, 32767, 32768, 65535, 65536,
    0x7ffffffeL, 0x7fffffffL, 0x80000000L, 0x80000001L, 0xfffffffeL, 0xffffffffL, 0x100000000L, 0x1000001L, 0x1000003L, 0x7fffffbfL,
    0x7fffffc0L, 0x20000000000001L, 0x20000000000003L, 0x7ffffffffffffe00L, 0x7ffffffffffffdffL, Long.MAX_VALUE, Long.MIN_VALUE,
    Long.MIN_VALUE + 1, -1, -2, -3, -7, -128, -129, -32768, -32769, -65536, 0x7fffff4000000001L, 0x7fffff4000000000L,
    0x8000004000000000L, 0x8000004000000001L, 0xfffffffffffff400L, 0xfffffffffffffbffL};
  private static final double[] FLOATING = {0.0, -0.0, 1, -1, 0.5, -0.5, 1.5, 2.5, -1.5, -2.5, 3.5, 0.49999999999999994, 0.99999999, -0.99999999,
    2147483647.0, 2147483648.0, 2147483647.9, -2147483648.0, -2147483648.9, -2147483649.0, 4294967295.0, 4294967295.9, 4294967296.0,
    9223372036854775807.0, 9223372036854774784.0, -9223372036854775808.0, -9223372036854777856.0, 18446744073709551615.0,
    18446744073709549568.0, 4503599627370496.5, 4503599627370497.5, 9007199254740993.0, 8388608.5, 8388609.5, 16777217, 1e300, -1e300,
    1e-300, 1e38, 3.4028235677973366e38, 3.4028234663852886e38, 3.4028235677973362e38, 1.4e-45, 7.006492321624085e-46, 7.006492321624086e-46,
    1.1754943508222875e-38, 1.1754942807573643e-38, Double.MIN_VALUE, Double.MIN_NORMAL, Double.MAX_VALUE, 4.9e-324, 3, 10, 1.0 / 3,
    Double.POSITIVE_INFINITY, Double.NEGATIVE_INFINITY, Double.NaN, 2, 4, 9, 1e16, 123456.789};
  private static final long[] NONES_32 = {0x7fc00000L, 0xffc00000L, 0x7f800001L, 0xff812345L, 0x7fffffffL};
  private static final long[] NONES_64 = {0x7ff8000000000000L, 0xfff8000000000000L, 0x7ff0000000000001L, 0xfff1234500000000L, Long.MAX_VALUE};

  private static final Random RANDOM = new Random(7);
  private static ModuleEngine engine;
  private static int used;

  public static void main(String[] args) {
    for (int op = 69; op <= 1007; op++) {
      if (op == 197) op = 1000;
      engine = null;
      for (int i = 0; i < 260; i++) compare(op);
    }
    byHand();
    Kit.finish();
  }

  private static int kind(char c) { return Reference.kindOf(c); }

  private static void fresh(int op) {
    String s = Reference.Ops.signature(op);
    int[] in = new int[s.length() - 1];
    for (int i = 0; i < in.length; i++) in[i] = kind(s.charAt(i));
    byte[] operator = op < 1000 ? Kit.bytes(op) : Kit.bytes(252, op - 1000);
    byte[] code = in.length == 1 ? Kit.bytes(32, 0, operator) : Kit.bytes(32, 0, 32, 1, operator);
    engine = Kit.engine(Kit.simple(in, new int[] {kind(s.charAt(s.length() - 1))}, code));
    engine.tier(RANDOM.nextInt(2));
    used = 0;
  }

  private static long operand(char c) {
    boolean any = RANDOM.nextInt(4) == 0;
    if (c == 'i') return any ? RANDOM.nextLong() : WHOLE[RANDOM.nextInt(WHOLE.length)];
    if (c == 'l') return any ? RANDOM.nextLong() >> RANDOM.nextInt(64) : WHOLE[RANDOM.nextInt(WHOLE.length)];
    if (RANDOM.nextInt(12) == 0) return c == 'f' ? NONES_32[RANDOM.nextInt(5)] : NONES_64[RANDOM.nextInt(5)];
    if (c == 'f') return any ? RANDOM.nextInt() : Float.floatToRawIntBits((float) FLOATING[RANDOM.nextInt(FLOATING.length)]) ^ (long) RANDOM.nextInt(3) << 32;
    return any ? RANDOM.nextLong() : Double.doubleToRawLongBits(FLOATING[RANDOM.nextInt(FLOATING.length)]);
  }

  private static void compare(int op) {
    String s = Reference.Ops.signature(op);
    long x = operand(s.charAt(0));
    boolean two = s.length() == 3;
    long y = RANDOM.nextInt(10) == 0 ? x : operand(s.charAt(0));
    long want = 0;
    int trap = 0;
    try {
      want = Reference.Ops.eval(op, x, y);
    } catch (Reference.Trap t) {
      trap = t.code;
    }
    check(op, x, two ? y : null, want, trap);
  }

  private static void check(int op, long x, Long y, long want, int trap) {
    if (engine == null || used > 60) fresh(op);
    used++;
    engine.argument(x);
    if (y != null) engine.argument(y);
    String what = op + " of " + Long.toHexString(x) + (y != null ? " and " + Long.toHexString(y) : "");
    Kit.due(what + ": call", engine.call(0, 0), true);
    engine.run(9);
    Kit.due(what + ": state", engine.state(0), trap == 0 ? 2 : 3);
    if (trap != 0) Kit.due(what + ": trap", engine.state(1), trap);
    Kit.due(what, engine.value(0), want);
    Kit.due(what + ": steps", engine.state(2), y != null ? 3 : 2);
  }

  private static void hand(int op, long x, long y, long want) {
    engine = null;
    check(op, x, y, want, 0);
  }

  private static void hand(int op, long x, long want) {
    engine = null;
    check(op, x, null, want, 0);
  }

  private static void trap(int op, long x, Long y, int trap) {
    engine = null;
    check(op, x, y, 0, trap);
  }

  private static long d(double v) { return Double.doubleToRawLongBits(v); }
  private static long f(float v) { return Float.floatToRawIntBits(v) & 0xffffffffL; }

  private static void byHand() {
    long none32 = 0x7fc00000L;
    long none64 = 0x7ff8000000000000L;
    hand(69, 1L << 32, 1);
    hand(72, -1, 1, 1);
    hand(73, -1, 1, 0);
    hand(103, 0, 32);
    hand(104, 0, 32);
    hand(121, 0, 64);
    hand(106, 0xffffffffL, 1, 0);
    hand(107, 0, 1, 0xffffffffL);
    hand(109, -7, 2, 0xfffffffdL);
    hand(111, -7, 2, 0xffffffffL);
    hand(111, 0x80000000L, -1, 0);
    hand(129, Long.MIN_VALUE, -1, 0);
    trap(109, 0x80000000L, -1L, 3);
    trap(109, 5, 0L, 2);
    trap(109, 0x80000000L, 0L, 2);
    trap(110, 5, 1L << 40, 2);
    trap(111, 5, 0L, 2);
    trap(112, 5, 0L, 2);
    trap(127, Long.MIN_VALUE, -1L, 3);
    trap(128, 5, 0L, 2);
    hand(116, 1, 33, 2);
    hand(117, 0x80000000L, 63, 0xffffffffL);
    hand(119, 0x80000001L, 1, 3);
    hand(138, 1, 65, Long.MIN_VALUE);
    // Two nearest: the even one; the sums are halfway between two values.
    hand(146, f(16777216f), f(1f), f(16777216f));
    hand(146, f(16777218f), f(1f), f(16777220f));
    hand(160, d(9007199254740992.0), d(1), d(9007199254740992.0));
    hand(160, d(9007199254740994.0), d(1), d(9007199254740996.0));
    // What is as great as INFINITE would be, and just below it.
    hand(148, 0x7f7fffffL, f(1.0000001f), 0x7f800000L);
    hand(146, 0x7f7fffffL, 0x73000000L, 0x7f800000L);
    hand(146, 0x7f7fffffL, 0x72ffffffL, 0x7f7fffffL);
    // Down to ZERO, with sign.
    hand(148, 0x80000001L, f(0.5f), 0x80000000L);
    hand(148, 0x80000001L, f(0.75f), 0x80000001L);
    hand(149, 1, f(2f), 0);
    hand(149, 3, f(2f), 2);
    // Zeros.
    hand(146, 0x80000000L, 0x80000000L, 0x80000000L);
    hand(146, 0x80000000L, 0, 0);
    hand(147, 0x80000000L, 0, 0x80000000L);
    hand(147, 0, 0, 0);
    hand(147, f(3f), f(3f), 0);
    hand(150, 0, 0x80000000L, 0x80000000L);
    hand(150, 0x80000000L, 0, 0x80000000L);
    hand(151, 0x80000000L, 0, 0);
    hand(165, 0, Long.MIN_VALUE, 0);
    hand(145, 0x80000000L, 0x80000000L);
    hand(144, f(-0.5f), 0x80000000L);
    hand(141, f(-0.5f), 0x80000000L);
    hand(143, f(-0.9f), 0x80000000L);
    hand(142, 0x80000000L, 0x80000000L);
    hand(144, f(2.5f), f(2f));
    hand(158, d(3.5), d(4));
    // NONE: THE NONE comes out, but where only the sign changes.
    for (int op = 141; op <= 145; op++) hand(op, 0xffc12345L, none32);
    for (int op = 146; op <= 151; op++) {
      hand(op, 0xff800001L, f(1f), none32);
      hand(op, f(1f), 0xff800001L, none32);
    }
    for (int op = 155; op <= 159; op++) hand(op, 0xfff8000000000001L, none64);
    hand(139, 0xff812345L, 0x7f812345L);
    hand(140, 0x7f812345L, 0xff812345L);
    hand(152, 0x7f812345L, 0x80000000L, 0xff812345L);
    hand(166, 0x7ff0000000000001L, d(-1), 0xfff0000000000001L);
    hand(182, 0xfff0000000000001L, none32);
    hand(187, 0xff800001L, none64);
    hand(147, 0x7f800000L, 0x7f800000L, none32);
    hand(146, 0x7f800000L, 0xff800000L, none32);
    hand(148, 0, 0xff800000L, none32);
    hand(149, 0, 0x80000000L, none32);
    hand(149, 0x7f800000L, 0x7f800000L, none32);
    hand(145, f(-1f), none32);
    hand(149, f(-1f), 0, 0xff800000L);
    hand(91, none32, none32, 0);
    hand(92, none32, none32, 1);
    hand(91, 0, 0x80000000L, 1);
    hand(93, 0x80000000L, 0, 0);
    hand(102, none64, 0, 0);
    // To whole numbers.
    hand(168, f(-2147483648f), 0x80000000L);
    trap(168, f(2147483648f), null, 3);
    hand(170, d(-2147483648.9), 0x80000000L);
    trap(170, d(-2147483649.0), null, 3);
    hand(171, d(-0.99), 0);
    trap(171, d(-1), null, 3);
    hand(171, d(4294967295.9), 0xffffffffL);
    trap(171, d(4294967296.0), null, 3);
    trap(169, 0x7f800000L, null, 3);
    trap(169, none32, null, 4);
    trap(174, 0xffc00000L, null, 4);
    hand(177, d(18446744073709549568.0), -2048);
    trap(177, d(18446744073709551616.0), null, 3);
    trap(176, d(9223372036854775808.0), null, 3);
    hand(176, d(-9223372036854775808.0), Long.MIN_VALUE);
    hand(1000, f(3e9f), 0x7fffffffL);
    hand(1000, none32, 0);
    hand(1001, f(-5f), 0);
    hand(1001, 0x7f800000L, 0xffffffffL);
    hand(1002, 0xfff0000000000000L, 0x80000000L);
    hand(1004, f(-1e30f), Long.MIN_VALUE);
    hand(1007, d(1e30), -1);
    hand(1006, 0x7ff0000000000000L, Long.MAX_VALUE);
    // From whole numbers, rounded once.
    hand(180, 0x7fffff4000000001L, 0x5effffffL);
    hand(180, 0x7fffff4000000000L, 0x5efffffeL);
    hand(180, 0x7fffffc000000000L, 0x5f000000L);
    hand(181, -1, f(18446744073709551616f));
    hand(186, -1, d(18446744073709551616.0));
    hand(178, 0, 0);
    hand(183, -1, d(-1));
    hand(184, -1, d(4294967295.0));
    hand(182, d(3.4028235677973366e38), 0x7f800000L);
    hand(182, d(3.4028235677973362e38), 0x7f7fffffL);
    hand(182, Long.MIN_VALUE, 0x80000000L);
    hand(182, d(7.006492321624085e-46), 0);
    hand(182, d(7.006492321624087e-46), 1);
    hand(187, 1, d(1.401298464324817e-45));
    hand(172, 0x80000000L, 0xffffffff80000000L);
    hand(173, -1, 0xffffffffL);
    hand(167, 0x123456789abcdef0L, 0x9abcdef0L);
    hand(192, 0x80, 0xffffff80L);
    hand(193, 0x18000, 0xffff8000L);
    hand(194, 0xff, -1);
    hand(195, 0x7fff, 0x7fff);
    hand(196, 0x80000000L, 0xffffffff80000000L);
    hand(188, 0xff800001L, 0xff800001L);
    hand(190, -1, 0xffffffffL);
  }
}
