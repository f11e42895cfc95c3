import java.util.Arrays;
import java.util.Random;

/** Runs of calls by chance, with the same answers due from the engine and from the reference. */
public final class FuzzTest {
  private static int wrong;
  private static int accepted;
  private static int refused;
  private static long stepsDone;
  private static final int[] faults = new int[41];
  private static final int[] traps = new int[10];
  private static final int[] states = new int[7];

  private final long seed;
  private final Random random;
  private final ModuleEngine engine = new ModuleEngine();
  private final Reference reference = new Reference();
  private final StringBuilder log = new StringBuilder();
  private int calls;
  private boolean bad;
  private int lastImports;

  private FuzzTest(long seed) {
    this.seed = seed;
    random = new Random(seed);
  }

  public static void main(String[] args) {
    long from = args.length > 0 ? Long.parseLong(args[0]) : 0;
    long count = args.length > 1 ? Long.parseLong(args[1]) : 10000;
    for (long s = from; s < from + count && wrong < 5; s++) new FuzzTest(s).play();
    System.out.println(accepted + " modules accepted, " + refused + " refused, " + stepsDone + " steps");
    System.out.println("faults " + Arrays.toString(faults));
    System.out.println("traps " + Arrays.toString(traps) + " states " + Arrays.toString(states));
    System.out.println(wrong == 0 ? "all answers are as due" : wrong + " runs are not as due");
    if (wrong != 0) System.exit(1);
  }

  private int pick(int n) { return random.nextInt(n); }
  private boolean chance(int percent) { return random.nextInt(100) < percent; }

  private long same(String call, long got, long due) {
    calls++;
    log.append(call).append(" = ").append(due).append('\n');
    if (got != due && !bad) {
      bad = true;
      wrong++;
      System.out.println("seed " + seed + ": " + call + " answered " + got + ", due is " + due);
      if (System.getProperty("log") != null) System.out.println(log);
    }
    return due;
  }

  private static int bit(boolean b) { return b ? 1 : 0; }

  private void feed(byte[] bytes) {
    for (int i = 0; i < bytes.length; i += 20) {
      int[] v = new int[5];
      for (int k = 0; k < 20; k++) v[k / 4] |= (i + k < bytes.length ? bytes[i + k] & 255 : 0) << 24 - k % 4 * 8;
      same("feed(" + v[0] + ", " + v[1] + ", " + v[2] + ", " + v[3] + ", " + v[4] + ")",
        engine.feed(v[0], v[1], v[2], v[3], v[4]), reference.feed(v[0], v[1], v[2], v[3], v[4]));
    }
  }

  private byte[] mutate(byte[] bytes) {
    byte[] out = bytes;
    int times = 1 + pick(2);
    for (int t = 0; t < times; t++) {
      int at = out.length == 0 ? 0 : chance(30) ? Math.max(0, out.length - 1 - pick(60)) : pick(out.length);
      byte value = (byte) (chance(50) ? pick(256) : new int[] {0, 1, 11, 5, 64, 127, 128, 255, 65, 26}[pick(10)]);
      int how = pick(4);
      if (at >= out.length) continue;
      if (how == 0) {
        byte[] more = new byte[out.length + 1];
        System.arraycopy(out, 0, more, 0, at);
        more[at] = value;
        System.arraycopy(out, at, more, at + 1, out.length - at);
        out = more;
      } else if (how == 1 && out.length > 1) {
        byte[] less = new byte[out.length - 1];
        System.arraycopy(out, 0, less, 0, at);
        System.arraycopy(out, at + 1, less, at, out.length - 1 - at);
        out = less;
      } else {
        out = out.clone();
        out[at] = value;
      }
    }
    return out;
  }

  private void play() {
    int modules = 1 + pick(3);
    for (int m = 0; m < modules && !bad; m++) {
      Generator g = new Generator(random.nextLong());
      g.wild = chance(20);
      byte[] bytes = chance(40) ? g.loose() : g.module();
      if (chance(30)) bytes = mutate(bytes);
      if (bytes.length > 5000) continue;
      feed(bytes);
      int n = chance(5) ? pick(bytes.length + 1) : bytes.length;
      int r = (int) same("module(" + n + ")", engine.module(n), reference.module(n));
      int fault = (int) same("fault(0)", engine.fault(0), reference.fault(0));
      same("fault(1)", engine.fault(1), reference.fault(1));
      if (r >= 0) accepted++; else refused++;
      if (fault >= 0) faults[fault]++;
      lastImports = g.importKinds.size();
      if (r >= 0) instantiate(r, g);
      if (chance(20)) instantiate(pick(3), g);
    }
    same("state(12)", engine.state(12), 0);
  }

  private void instantiate(int module, Generator g) {
    if (chance(50)) same("tier", engine.tier(module), reference.tier(module));
    if (chance(50)) {
      int n = pick(4);
      same("tier(" + n + ")", engine.tier(n), reference.tier(n));
    }
    for (int tries = 0; tries < 3; tries++) {
      for (int k : g.importKinds) offerFor(k);
      int r = (int) same("make(" + module + ")", engine.make(module), reference.make(module));
      look();
      if (r >= 0) break;
    }
    for (int i = 0; i < 12 && !bad; i++) callSomething();
  }

  private void offerFor(int kind) {
    if (kind == 0 && chance(70) || chance(3)) {
      int k = pick(64);
      same("offer(-1, " + k + ")", engine.offer(-1, k), reference.offer(-1, k));
      return;
    }
    for (int t = 0; t < 30; t++) {
      int i = pick(Math.max(1, reference.state(6)));
      int k = pick(12);
      if (reference.export(i, k, 0) == kind) {
        same("offer(" + i + ", " + k + ")", engine.offer(i, k), reference.offer(i, k));
        return;
      }
    }
    same("offer(-1, 3)", engine.offer(-1, 3), reference.offer(-1, 3));
  }

  private void argument() {
    long[] some = {0, 1, 2, 3, -1, 5, 10, 65536, 0x7fc00000L, 0x3f800000L, 0x4000000000000000L, Long.MIN_VALUE, 1L << 40};
    long a = chance(80) ? some[pick(some.length)] : random.nextLong();
    same("argument(" + a + ")", engine.argument(a), reference.argument(a));
  }

  private void drain() {
    // Arguments that were left over are got rid of in a call that wants as many.
    for (int i = 0; i < reference.state(6); i++)
      for (int k = 0; k < 30; k++)
        if (reference.export(i, k, 0) == 0 && same("call(" + i + ", " + k + ")", bit(engine.call(i, k)), bit(reference.call(i, k))) == 1) return;
  }

  private void callSomething() {
    int i = pick(Math.max(1, reference.state(6)));
    int k = pick(14);
    int n = reference.export(i, k, 2);
    for (int a = 0; a < n; a++) argument();
    if (same("call(" + i + ", " + k + ")", bit(engine.call(i, k)), bit(reference.call(i, k))) == 0) drain();
    for (int t = 0; t < 8 && !bad; t++) {
      int s = reference.state(0);
      if (s == 1) {
        int steps = chance(60) ? pick(12) : chance(80) ? pick(200) : 3000;
        stepsDone += same("run(" + steps + ")", engine.run(steps), reference.run(steps));
      } else if (s == 5) {
        for (int a = 0; a < 4; a++) if (chance(30)) argument();
        same("answer()", bit(engine.answer()), bit(reference.answer()));
      } else break;
      look();
    }
    if (chance(40)) same("give()", bit(engine.give()), bit(reference.give()));
    look();
    states[reference.state(0)]++;
    if (reference.state(0) == 3) traps[reference.state(1)]++;
  }

  private void look() {
    for (int w = 0; w < 12; w++) same("state(" + w + ")", engine.state(w), reference.state(w));
    for (int k = 0; k < 3; k++) same("value(" + k + ")", engine.value(k), reference.value(k));
    for (int t = 0; t < 6; t++) {
      int i = pick(Math.max(1, reference.state(6)));
      int k = pick(16);
      int what = pick(7);
      same("export(" + i + ", " + k + ", " + what + ")", engine.export(i, k, what), reference.export(i, k, what));
      int kind = reference.export(i, k, 0);
      int at = chance(80) ? pick(100) : 65536 - 10 + pick(30);
      if (kind == 1) same("table(" + i + ", " + k + ", " + at % 14 + ")", engine.table(i, k, at % 14), reference.table(i, k, at % 14));
      if (kind == 2) same("memory(" + i + ", " + k + ", " + at + ")", engine.memory(i, k, at), reference.memory(i, k, at));
      if (kind == 2 && chance(20)) same("poke(" + i + ", " + k + ", " + at + ", " + calls + ")", bit(engine.poke(i, k, at, calls)), bit(reference.poke(i, k, at, calls)));
      if (kind == 3) same("global(" + i + ", " + k + ")", engine.global(i, k), reference.global(i, k));
    }
  }
}
