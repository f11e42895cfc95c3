import java.io.ByteArrayOutputStream;
import java.util.stream.LongStream;

/** What the tests share: bytes of modules by hand, and the comparing of answers. */
final class Kit {
  static final int I32 = 127;
  static final int I64 = 126;
  static final int F32 = 125;
  static final int F64 = 124;
  static final int FUNC = 112;
  static final int OUT = 111;
  private static int wrong;
  private static int looked;

  static final byte[] REFUSED = refusedModule();

  private Kit() { }

  private static byte[] refusedModule() {
    int n = 50;
    byte[] exports = {};
    for (int i = 0; i < n; i++) exports = bytes(exports, 1, 32 + i, i % 4, 0);
    return module(section(1, 2, type(kinds(), kinds()), type(kinds(I64, I64), kinds(I64))),
      section(2, 4, "", "", 0, 0, "", "", 1, FUNC, 0, 0, "", "", 2, 0, 1, "", "", 3, I32, 0),
      section(3, (long) n, times(n, 0)), section(4, (long) n, times(n / 2, FUNC, 0, 3, OUT, 1, 2, 5)),
      section(6, (long) n, times(n, I32, 1, 65, 0, 11)), section(7, (long) n, exports), section(8, 0),
      section(9, (long) n, times(n / 2, 1, 0, 1, 1, 5, OUT, 1, 208, OUT, 11)), section(12, (long) n),
      section(10, (long) n, times(n - 1, bodyWith(bytes(1, 9, I64))), body(65, 0, 65, 0, 2, 64, 3, 64, 65, 0, 0, 12, 9, 11, 11)),
      section(11, (long) n, times(n, 1, 2, 7, 8)));
  }

  static void due(String what, long got, long want) {
    looked++;
    if (got != want) {
      wrong++;
      System.out.println(what + " answered " + got + ", due is " + want);
    }
  }

  static void due(String what, boolean got, boolean want) { due(what, got ? 1 : 0, want ? 1 : 0); }

  static void finish() {
    System.out.println(looked + " answers, " + (wrong == 0 ? "all as due" : wrong + " not as due"));
    if (wrong != 0) System.exit(1);
  }

  /** Numbers are bytes, longs U32, texts names; rows of bytes are taken as they are. */
  static byte[] bytes(Object... parts) {
    ByteArrayOutputStream out = new ByteArrayOutputStream();
    for (Object p : parts) {
      if (p instanceof Integer b) out.write(b);
      else if (p instanceof Long u) u32(out, u);
      else if (p instanceof String s) {
        u32(out, s.length());
        for (char c : s.toCharArray()) out.write(c);
      } else if (p instanceof int[] row) for (int b : row) out.write(b);
      else if (p instanceof byte[] row) out.write(row, 0, row.length);
    }
    return out.toByteArray();
  }

  private static void u32(ByteArrayOutputStream out, long v) {
    long x = v;
    while (x >= 128) {
      out.write((int) (x & 127 | 128));
      x >>>= 7;
    }
    out.write((int) x);
  }

  static byte[] signed(long v) {
    ByteArrayOutputStream out = new ByteArrayOutputStream();
    long x = v;
    while (x < -64 || x > 63) {
      out.write((int) (x & 127 | 128));
      x >>= 7;
    }
    out.write((int) (x & 127));
    return out.toByteArray();
  }

  static byte[] little(long v, int n) {
    byte[] out = new byte[n];
    for (int i = 0; i < n; i++) out[i] = (byte) (v >> 8 * i);
    return out;
  }

  static byte[] constant(int kind, long v) {
    return switch (kind) {
      case I32 -> bytes(65, signed((int) v));
      case I64 -> bytes(66, signed(v));
      case F32 -> bytes(67, little(v, 4));
      default -> bytes(68, little(v, 8));
    };
  }

  static byte[] times(int n, Object... parts) {
    byte[] one = bytes(parts);
    byte[] out = new byte[one.length * n];
    for (int i = 0; i < n; i++) System.arraycopy(one, 0, out, i * one.length, one.length);
    return out;
  }

  static byte[] section(int id, Object... content) {
    byte[] c = bytes(content);
    return bytes(id, (long) c.length, c);
  }

  static byte[] type(int[] params, int[] results) {
    return bytes(96, (long) params.length, params, (long) results.length, results);
  }

  static int[] kinds(int... kinds) { return kinds; }

  /** A body without locals of its own; its END comes behind what is given. */
  static byte[] body(Object... code) { return bodyWith(bytes(0), code); }

  static byte[] bodyWith(byte[] locals, Object... code) {
    byte[] c = bytes(locals, bytes(code), 11);
    return bytes((long) c.length, c);
  }

  static byte[] module(Object... sections) { return bytes(0, 97, 115, 109, 1, 0, 0, 0, bytes(sections)); }

  /** A module with one function, exported as 0, a memory of a page (export 1), and a table of four functions (export 2). */
  static byte[] simple(int[] params, int[] results, Object... code) {
    return simpleWith(params, results, bytes(0), code);
  }

  static byte[] simpleWith(int[] params, int[] results, byte[] locals, Object... code) {
    return module(
      section(1, 1, type(params, results)),
      section(3, 1, 0),
      section(4, 1, FUNC, 0, 4),
      section(5, 1, 0, 1),
      section(7, 3, "f", 0, 0, "m", 2, 0, "t", 1, 0),
      section(10, 1, bodyWith(locals, code)));
  }

  static int feed(ModuleEngine e, byte[] m) {
    int last = 0;
    for (int i = 0; i < m.length; i += 20) {
      int[] v = new int[5];
      for (int k = 0; k < 20; k++) v[k / 4] |= (i + k < m.length ? m[i + k] & 255 : 0) << 24 - k % 4 * 8;
      last = e.feed(v[0], v[1], v[2], v[3], v[4]);
    }
    return last;
  }

  static int load(ModuleEngine e, byte[] m) {
    feed(e, m);
    return e.module(m.length);
  }

  /** A new engine with an instance of a module, which is due to be right. */
  static ModuleEngine engine(byte[] m) {
    ModuleEngine e = new ModuleEngine();
    due("module", load(e, m), 0);
    if (e.fault(0) != 0) due("fault at " + e.fault(1), e.fault(0), 0);
    due("make", e.make(0), 0);
    return e;
  }

  /** What a module has for a fault, read first of all, and behind a large one that was refused in the midst of its last body. */
  static void fault(String what, byte[] m, int fault, int place) {
    ModuleEngine e = new ModuleEngine();
    for (int i = 0; i < 2; i++) {
      due(what + ": module", load(e, m), fault == 0 ? 0 : -1);
      due(what + ": fault", e.fault(0), fault);
      due(what + ": place", e.fault(1), fault == 0 ? -1 : place);
      e = new ModuleEngine();
      load(e, REFUSED);
    }
    Reference r = new Reference();
    for (int i = 0; i < m.length; i += 20) {
      int[] v = new int[5];
      for (int k = 0; k < 20; k++) v[k / 4] |= (i + k < m.length ? m[i + k] & 255 : 0) << 24 - k % 4 * 8;
      r.feed(v[0], v[1], v[2], v[3], v[4]);
    }
    r.module(m.length);
    due(what + ": fault of the reference", r.fault(0), fault);
    due(what + ": place of the reference", r.fault(1), fault == 0 ? -1 : place);
  }

  static void fault(String what, byte[] m) { fault(what, m, 0, -1); }

  /** Calls an export and runs it to its end. */
  static void run(ModuleEngine e, int instance, int k, long... arguments) {
    for (long a : arguments) e.argument(a);
    due("call(" + instance + ", " + k + ")", e.call(instance, k), true);
    e.run(100000);
  }

  /** The result of a function with this code, on both machines, and its steps. */
  static void result(String what, int[] results, Object code, long want, int steps) {
    for (int tier = 0; tier < 2; tier++) {
      ModuleEngine e = engine(simple(kinds(), results, code));
      e.tier(tier);
      run(e, 0, 0);
      due(what + ": state, tier " + tier, e.state(0), 2);
      due(what + ": value, tier " + tier, e.value(0), want);
      due(what + ": steps, tier " + tier, e.state(2), steps);
      due(what + ": state(12)", e.state(12), 0);
    }
  }

  /** The trap of a function with this code, on both machines, and its steps. */
  static void trap(String what, Object code, int trap, int steps) {
    for (int tier = 0; tier < 2; tier++) {
      ModuleEngine e = engine(simple(kinds(), kinds(), code));
      e.tier(tier);
      run(e, 0, 0);
      due(what + ": state, tier " + tier, e.state(0), 3);
      due(what + ": trap, tier " + tier, e.state(1), trap);
      due(what + ": steps, tier " + tier, e.state(2), steps);
    }
  }

  interface Setup { ModuleEngine get(); }

  interface Call { long on(ModuleEngine e); }

  static long bit(boolean b) { return b ? 1 : 0; }

  /** A call that is refused with this answer, and after which all is as it is without that call. */
  static void refused(String what, Setup setup, Call call, long want) {
    ModuleEngine with = setup.get();
    due(what, call.on(with), want);
    long[] seen = look(with);
    long[] before = look(setup.get());
    due(what + " does nothing: how much is seen", seen.length, before.length);
    for (int i = 0; i < seen.length; i++) due(what + " does nothing: look " + i, seen[i], before[i]);
  }

  /** All that can be seen of an engine: first without changing it, then by calls that show what else it keeps. */
  static long[] look(ModuleEngine e) {
    LongStream.Builder out = LongStream.builder();
    lookStill(e, out);
    out.add(e.tier(3)).add(e.argument(5)).add(e.offer(-1, 3)).add(e.feed(0x0061736d, 0x01000000, 0, 0, 0));
    out.add(e.make(0)).add(e.offer(-1, 3)).add(e.run(3)).add(bit(e.answer()));
    lookStill(e, out);
    out.add(bit(e.give())).add(e.argument(6)).add(e.module(e.state(10)));
    lookStill(e, out);
    return out.build().toArray();
  }

  /** What can be seen of an engine without changing it, but for state(11). */
  static long[] seen(ModuleEngine e) {
    LongStream.Builder out = LongStream.builder();
    lookStill(e, out);
    long[] all = out.build().toArray();
    all[12] = 0;
    return all;
  }

  private static void lookStill(ModuleEngine e, LongStream.Builder out) {
    for (int w = -1; w < 14; w++) out.add(e.state(w));
    for (int w = -1; w < 3; w++) out.add(e.fault(w));
    for (int k = -1; k < 18; k++) out.add(e.value(k));
    for (int i = 0; i < Math.min(2, e.state(6)); i++) {
      for (int k = 0; k < 14; k++) {
        for (int w = 0; w < 6; w++) out.add(e.export(i, k, w));
        out.add(e.global(i, k));
        for (int a = 0; a < 5; a++) out.add(e.table(i, k, a)).add(e.memory(i, k, a)).add(e.memory(i, k, 65534 + a));
      }
    }
  }
}
