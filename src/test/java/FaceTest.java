/** The promises 1 to 19 one by one, as far as the other tests leave them: ordinary inputs, edges, wrong inputs. */
public final class FaceTest {
  private static final int[] NO = {};
  private static final int[] INT = {127};
  private static final byte[] EMPTY = Kit.module();

  public static void main(String[] args) {
    newObject();
    feed();
    module();
    fault();
    arguments();
    call();
    run();
    give();
    state();
    export();
    memory();
    table();
    global();
    manyCalls();
    Kit.finish();
  }

  private static void newObject() {
    ModuleEngine e = new ModuleEngine();
    int[] want = {0, 0, 0, 0, -1, 0, 0, 0, 8, 1024, 0, 0, 0};
    for (int w = 0; w < want.length; w++) Kit.due("state(" + w + ") of a new object", e.state(w), want[w]);
    Kit.due("value", e.value(0), 0);
    Kit.due("fault(0)", e.fault(0), -1);
    Kit.due("fault(1)", e.fault(1), -1);
    Kit.due("make", e.make(0), -1);
    Kit.due("offer", e.offer(0, 0), -1);
    Kit.due("call", e.call(0, 0), false);
    Kit.due("run", e.run(1), 0);
    Kit.due("give", e.give(), false);
    Kit.due("answer", e.answer(), false);
    Kit.due("export", e.export(0, 0, 0), -1);
    Kit.due("memory", e.memory(0, 0, 0), -1);
    Kit.due("poke", e.poke(0, 0, 0, 0), false);
    Kit.due("table", e.table(0, 0, 0), -2);
    Kit.due("global", e.global(0, 0), 0);
    Kit.due("module", e.module(1), -2);
    Kit.due("tier", e.tier(0), 0);
  }

  private static void feed() {
    ModuleEngine e = new ModuleEngine();
    for (int i = 1; i <= 2048; i++) Kit.due("feed " + i, e.feed(-1, 0, i, 4, 5), 20 * i);
    Kit.due("bytes on the tape", e.state(10), 40960);
    Kit.due("no more, ever", e.feed(1, 2, 3, 4, 5), -1);
    Kit.due("which does nothing", e.state(10), 40960);
    Kit.due("a module empties it", e.module(3), -1);
    Kit.due("but not for more", e.feed(1, 2, 3, 4, 5), -1);
    Kit.due("empty", e.state(10), 0);
    e = new ModuleEngine();
    Kit.due("the highest byte first", e.feed(0x0061736d, 0x01000000, 0x0203ff01, 0, 0), 20);
    e.module(12);
    Kit.due("a section larger than what is left", e.fault(1), 9);
    e = new ModuleEngine();
    e.feed(0x0061736d, 0x01000000, -1, -1, -1);
    e.module(20);
    Kit.due("255 has no sign", e.fault(0), 6);
  }

  private static void module() {
    ModuleEngine e = new ModuleEngine();
    Kit.feed(e, EMPTY);
    Kit.due("below 0", e.module(-1), -2);
    Kit.due("more than there are", e.module(21), -2);
    Kit.due("which does nothing", e.state(10), 20);
    Kit.due("no fault of it", e.fault(0), -1);
    Kit.due("the first", e.module(8), 0);
    Kit.due("the tape is empty behind it, too", e.state(10), 0);
    Kit.due("modules", e.state(5), 1);
    Kit.feed(e, EMPTY);
    Kit.due("all 20 bytes: a section 0 without a name", e.module(20), -1);
    Kit.due("the tape is empty with a fault", e.state(10), 0);
    Kit.due("fault", e.fault(0), 1);
    Kit.due("place", e.fault(1), 10);
    Kit.due("no bytes", e.module(0), -1);
    Kit.due("fault", e.fault(0), 1);
    Kit.due("place", e.fault(1), 0);
    for (int i = 1; i < 16; i++) Kit.due("module " + i, Kit.load(e, EMPTY), i);
    Kit.feed(e, EMPTY);
    Kit.due("there are 16", e.module(8), -2);
    Kit.due("which does nothing", e.state(10), 20);
    Kit.due("nor with a fault", e.module(0), -2);
    Kit.due("the fault is of the one before", e.fault(0), 0);
    Kit.due("modules", e.state(5), 16);
  }

  private static void fault() {
    ModuleEngine e = new ModuleEngine();
    Kit.load(e, EMPTY);
    Kit.due("no fault", e.fault(0), 0);
    Kit.due("no place", e.fault(1), -1);
    Kit.due("another", e.fault(2), -1);
    Kit.due("one below", e.fault(-1), -1);
    Kit.load(e, Kit.module(99));
    Kit.due("a fault", e.fault(0), 6);
    Kit.due("its place", e.fault(1), 8);
    Kit.due("a module of -2", e.module(999), -2);
    Kit.due("does not count", e.fault(0), 6);
    Kit.due("types of a module with a fault are gone", Kit.load(e, Kit.simple(INT, INT, 32, 0, 26)), -1);
    Kit.load(e, Kit.simple(INT, INT, 32, 0));
    Kit.due("no fault again", e.fault(1), -1);
  }

  private static void arguments() {
    ModuleEngine e = Kit.engine(Kit.simple(INT, INT, 32, 0));
    for (int i = 1; i <= 16; i++) Kit.due("argument " + i, e.argument(i), i);
    Kit.due("17", e.argument(17), -1);
    Kit.due("too many", e.call(0, 0), false);
    Kit.due("they stay", e.argument(1), -1);
    int[] sixteen = new int[16];
    java.util.Arrays.fill(sixteen, 126);
    byte[] all = {};
    for (int i = 15; i >= 0; i--) all = Kit.bytes(all, 32, i);
    for (int tier = 0; tier < 2; tier++) {
      e = Kit.engine(Kit.simple(sixteen, sixteen, all));
      e.tier(tier);
      for (int i = 0; i < 16; i++) e.argument(100 + i);
      Kit.due("call", e.call(0, 0), true);
      Kit.due("they are gone", e.argument(5), 1);
      Kit.due("also while it runs", e.argument(6), 2);
      e.run(100);
      for (int i = 0; i < 16; i++) Kit.due("result " + i, e.value(i), 115 - i);
      Kit.due("no result 16", e.value(16), 0);
      Kit.due("no result of very many", e.value(Integer.MAX_VALUE), 0);
      Kit.due("nor below", e.value(Integer.MIN_VALUE), 0);
    }
  }

  private static void call() {
    byte[] m = Kit.module(Kit.section(1, 2, Kit.type(new int[] {112, 111}, new int[] {111, 112}), Kit.type(new int[] {125}, new int[] {125})),
      Kit.section(3, 2, 0, 1), Kit.section(4, 1, 112, 0, 1), Kit.section(7, 3, "f", 0, 0, "g", 0, 1, "t", 1, 0),
      Kit.section(10, 2, Kit.body(32, 1, 32, 0), Kit.body(32, 0)));
    for (int tier = 0; tier < 2; tier++) {
      ModuleEngine e = Kit.engine(m);
      e.tier(tier);
      Kit.due("without arguments", e.call(0, 0), false);
      Kit.due("a table", e.call(0, 2), false);
      Kit.due("no export", e.call(0, 3), false);
      Kit.due("no export below", e.call(0, -1), false);
      Kit.due("no instance", e.call(1, 0), false);
      Kit.due("no instance below", e.call(-1, 0), false);
      long[][] wrong = {{2, 0}, {-2, 0}, {0, -2}, {0, 2147483648L}, {1L << 32, 0}, {0, 1L << 32}};
      for (long[] w : wrong) {
        ModuleEngine x = Kit.engine(m);
        x.argument(w[0]);
        x.argument(w[1]);
        Kit.due("references " + w[0] + ", " + w[1], x.call(0, 0), false);
        Kit.due("does nothing", x.state(0), 0);
        Kit.due("and they stay", x.argument(0), 3);
      }
      Kit.run(e, 0, 0, 1, 2147483647);
      Kit.due("a reference from outside", e.value(0), 2147483647);
      Kit.due("a reference to a function", e.value(1), 1);
      Kit.run(e, 0, 0, -1, -1);
      Kit.due("none", e.value(0), -1);
      Kit.due("none of functions", e.value(1), -1);
      Kit.run(e, 0, 1, -1);
      Kit.due("the lowest bits of a floating one", e.value(0), 0xffffffffL);
      e.argument(5);
      e.call(0, 1);
      e.argument(5);
      Kit.due("something runs", e.call(0, 1), false);
      Kit.due("goes on", e.run(9), 1);
    }
  }

  private static void run() {
    ModuleEngine e = Kit.engine(Kit.simple(NO, NO, 3, 64, 12, 0, 11));
    Kit.due("nothing runs", e.run(7), 0);
    Kit.due("below 0, and nothing runs", e.run(-1), -1);
    Kit.due("above, and nothing runs", e.run(100001), -1);
    e.call(0, 0);
    Kit.due("below 0", e.run(-1), -1);
    Kit.due("above", e.run(100001), -1);
    Kit.due("greatest", e.run(Integer.MAX_VALUE), -1);
    Kit.due("none", e.run(0), 0);
    Kit.due("the most", e.run(100000), 100000);
    Kit.due("once more", e.run(100000), 100000);
    Kit.due("steps", e.state(2), 200000);
    Kit.due("it runs", e.state(0), 1);
    Kit.due("no make", e.make(0), -10);
    Kit.due("no module, and it runs", e.make(1), -1);
    Kit.due("no poke", e.poke(0, 1, 0, 1), false);
    Kit.due("a module may be read", Kit.load(e, EMPTY), 1);
    Kit.due("and something offered", e.offer(0, 1), 1);
    Kit.due("it runs still", e.run(3), 3);
  }

  private static void give() {
    ModuleEngine e = Kit.engine(Kit.simple(NO, NO, 3, 64, 12, 0, 11));
    e.call(0, 0);
    e.run(5);
    Kit.due("give", e.give(), true);
    Kit.due("state", e.state(0), 6);
    Kit.due("frames", e.state(3), 0);
    Kit.due("steps", e.state(2), 5);
    Kit.due("run", e.run(5), 0);
    Kit.due("again", e.give(), false);
    Kit.due("call", e.call(0, 0), true);
    Kit.due("state", e.state(0), 1);
    Kit.due("steps", e.state(2), 0);
    e.give();
    e = Kit.engine(Kit.simple(INT, INT, 32, 0, 65, 1, 106));
    e.tier(1);
    e.argument(4);
    e.call(0, 0);
    e.run(2);
    e.give();
    Kit.run(e, 0, 0, 4);
    Kit.due("steps counted ahead are given up, too", e.state(2), 3);
    Kit.due("value", e.value(0), 5);
  }

  private static void state() {
    ModuleEngine e = Kit.engine(Kit.simple(INT, INT, 65, 1, 32, 0, 109));
    Kit.due("nothing was called", e.state(0), 0);
    e.argument(1);
    e.call(0, 0);
    Kit.due("it runs", e.state(0), 1);
    Kit.due("a frame", e.state(3), 1);
    Kit.due("no value meanwhile", e.value(0), 0);
    e.run(9);
    Kit.due("it has ended", e.state(0), 2);
    Kit.due("no frame", e.state(3), 0);
    Kit.run(e, 0, 0, 0);
    Kit.due("it trapped", e.state(0), 3);
    Kit.due("by", e.state(1), 2);
    Kit.due("no value", e.value(0), 0);
    Kit.run(e, 0, 0, 1);
    Kit.due("the latest trap ever", e.state(1), 2);
    Kit.due("13", e.state(13), -1);
    Kit.due("-1", e.state(-1), -1);
    Kit.due("least", e.state(Integer.MIN_VALUE), -1);
    Kit.due("instances", e.state(6), 1);
    Kit.due("functions", e.state(7), 1);
    Kit.due("pages left", e.state(8), 7);
    Kit.due("entries left", e.state(9), 1020);
  }

  private static byte[] things() {
    return Kit.module(Kit.section(1, 1, Kit.type(new int[] {127, 126}, INT)),
      Kit.section(3, 2, 0, 0), Kit.section(4, 2, 112, 0, 3, 111, 1, 2, 9), Kit.section(5, 1, 0, 2),
      Kit.section(6, 6, 127, 1, 65, 127, 11, 126, 0, 66, 127, 11, 125, 0, 67, 0, 0, 128, 255, 11, 124, 0, 68, 0, 0, 0, 0, 0, 0, 240, 255, 11,
        112, 0, 210, 1, 11, 111, 0, 208, 111, 11),
      Kit.section(7, 10, "f", 0, 1, "t", 1, 0, "u", 1, 1, "m", 2, 0, "a", 3, 0, "b", 3, 1, "c", 3, 2, "d", 3, 3, "r", 3, 4, "s", 3, 5),
      Kit.section(9, 1, 0, 65, 1, 11, 2, 1, 0),
      Kit.section(10, 2, Kit.body(65, 1), Kit.body(65, 2)));
  }

  private static void export() {
    ModuleEngine e = Kit.engine(things());
    Kit.due("a second one", e.make(0), 1);
    int[][] want = {
      {0, 1, 2, 1, -1, -1}, {1, 0, -1, -1, 3, -1}, {1, 1, -1, -1, 2, -1}, {2, 0, -1, -1, 2, -1}, {3, 0, -1, -1, -1, 127},
      {3, 1, -1, -1, -1, 126}, {3, 2, -1, -1, -1, 125}, {3, 3, -1, -1, -1, 124}, {3, 4, -1, -1, -1, 112}, {3, 5, -1, -1, -1, 111}};
    int[] shift = {2, 2, 1, 6};
    for (int i = 0; i < 2; i++)
      for (int k = 0; k < want.length; k++)
        for (int w = 0; w < 6; w++) {
          long due = w == 1 ? want[k][1] + i * shift[want[k][0]] : want[k][w];
          Kit.due("export(" + i + ", " + k + ", " + w + ")", e.export(i, k, w), due);
        }
    Kit.due("what 6", e.export(0, 0, 6), -1);
    Kit.due("what -1", e.export(0, 0, -1), -1);
    Kit.due("no export", e.export(0, 10, 0), -1);
    Kit.due("no export below", e.export(0, -1, 0), -1);
    Kit.due("no instance", e.export(2, 0, 0), -1);
    Kit.due("no instance below", e.export(-1, 0, 0), -1);
  }

  private static void memory() {
    ModuleEngine e = Kit.engine(things());
    Kit.due("a byte", e.memory(0, 3, 0), 0);
    Kit.due("poke", e.poke(0, 3, 131071, 0x1fe), true);
    Kit.due("the lowest 8 bits", e.memory(0, 3, 131071), 254);
    Kit.due("beyond", e.memory(0, 3, 131072), -1);
    Kit.due("poke beyond", e.poke(0, 3, 131072, 1), false);
    Kit.due("an address below 0 is a great one", e.memory(0, 3, -1), -1);
    Kit.due("poke there", e.poke(0, 3, Integer.MIN_VALUE, 1), false);
    Kit.due("a table", e.memory(0, 1, 0), -1);
    Kit.due("poke a table", e.poke(0, 1, 0, 1), false);
    Kit.due("no export", e.memory(0, 10, 0), -1);
    Kit.due("poke no export", e.poke(0, 10, 0, 1), false);
    Kit.due("no instance", e.memory(1, 3, 0), -1);
    Kit.due("poke no instance", e.poke(-1, 3, 0, 1), false);
  }

  private static void table() {
    ModuleEngine e = Kit.engine(things());
    int[] want = {-1, 1, 0};
    for (int i = 0; i < 3; i++) Kit.due("entry " + i, e.table(0, 1, i), want[i]);
    Kit.due("beyond", e.table(0, 1, 3), -2);
    Kit.due("below", e.table(0, 1, -1), -2);
    Kit.due("greatest", e.table(0, 1, Integer.MAX_VALUE), -2);
    Kit.due("of references from outside", e.table(0, 2, 1), -1);
    Kit.due("a memory", e.table(0, 3, 0), -2);
    Kit.due("no export", e.table(0, 10, 0), -2);
    Kit.due("no instance", e.table(1, 1, 0), -2);
  }

  private static void global() {
    ModuleEngine e = Kit.engine(things());
    long[] want = {0xffffffffL, -1, 0xff800000L, 0xfff0000000000000L, 1, -1};
    for (int i = 0; i < 6; i++) Kit.due("global " + i, e.global(0, 4 + i), want[i]);
    Kit.due("a function", e.global(0, 0), 0);
    Kit.due("no export", e.global(0, 10), 0);
    Kit.due("no export below", e.global(0, -1), 0);
    Kit.due("no instance", e.global(1, 4), 0);
  }

  /** Calls without end on one object, most of them wrong: none may throw, whatever the state. */
  private static void manyCalls() {
    java.util.Random r = new java.util.Random(5);
    int[] some = {0, 1, 2, 3, 4, 5, 6, 7, 8, 9, 10, 15, 16, 63, 64, 200, 65535, 65536, 100000, 100001, -1, -2, Integer.MAX_VALUE, Integer.MIN_VALUE};
    ModuleEngine e = null;
    for (int i = 0; i < 200000; i++) {
      if (i % 700 == 0) {
        e = new ModuleEngine();
        Kit.load(e, things());
        Kit.load(e, Kit.simple(INT, INT, 32, 0, 4, 64, 32, 0, 65, 1, 107, 16, 0, 26, 11, 32, 0));
        e.make(0);
        e.make(1);
      }
      int a = some[r.nextInt(some.length)];
      int b = some[r.nextInt(some.length)];
      int c = some[r.nextInt(some.length)];
      switch (r.nextInt(18)) {
        case 0 -> e.feed(a, b, c, r.nextInt(), r.nextInt());
        case 1 -> e.module(a);
        case 2 -> e.fault(a);
        case 3 -> e.offer(a, b);
        case 4 -> e.make(a);
        case 5 -> e.argument(a);
        case 6 -> e.call(a, b);
        case 7 -> e.run(a);
        case 8 -> e.give();
        case 9 -> e.answer();
        case 10 -> e.state(a);
        case 11 -> e.value(a);
        case 12 -> e.tier(a);
        case 13 -> e.export(a, b, c);
        case 14 -> e.memory(a, b, c);
        case 15 -> e.poke(a, b, c, i);
        case 16 -> e.table(a, b, c);
        default -> e.global(a, b);
      }
    }
    Kit.due("never other types", e.state(12), 0);
  }
}
