/** Part V with promises 8 to 14: steps, traps, frames, HOST, memory and tables as they run, on both machines. */
public final class RunningTest {
  private static final int[] NO = {};
  private static final int[] INT = {127};

  public static void main(String[] args) {
    steps();
    pauses();
    control();
    variables();
    loads();
    traps();
    stretches();
    growth();
    indirect();
    host();
    frames();
    tiers();
    Kit.finish();
  }

  private static byte[] i32(long v) { return Kit.constant(127, v); }

  private static void steps() {
    Kit.result("2, 3, 5, 11 are no steps", INT, Kit.bytes(2, 127, 3, 127, 65, 7, 11, 11), 7, 1);
    Kit.result("4 is one, its 5 is none", INT, Kit.bytes(65, 1, 4, 127, 65, 5, 5, 65, 6, 11), 5, 3);
    Kit.result("4 goes to 5", INT, Kit.bytes(65, 0, 4, 127, 65, 5, 5, 65, 6, 11), 6, 3);
    Kit.result("1 is a step", INT, Kit.bytes(1, 1, 65, 3), 3, 3);
    Kit.result("12 is a step", INT, Kit.bytes(2, 127, 65, 9, 12, 0, 11), 9, 2);
    Kit.result("15 is a step", INT, Kit.bytes(65, 9, 15), 9, 2);
    ModuleEngine e = Kit.engine(Kit.simple(NO, NO, 2, 64, 11));
    Kit.due("call", e.call(0, 0), true);
    Kit.due("a function without steps has ended with the call", e.state(0), 2);
    Kit.due("its steps", e.state(2), 0);
    Kit.due("run", e.run(5), 0);
    e = Kit.engine(Kit.simple(NO, NO, 0));
    e.call(0, 0);
    Kit.due("a trap is a step", e.run(5), 1);
    Kit.due("steps", e.state(2), 1);
    Kit.due("trap", e.state(1), 1);
    Kit.due("frames", e.state(3), 0);
  }

  /** A loop that adds up, stopped after any number of steps: each machine does the same in each. */
  private static void pauses() {
    byte[] code = Kit.bytes(
      3, 64,
      32, 1, 32, 0, 106, 34, 1, 36, 0,
      32, 0, 65, 1, 107, 34, 0, 13, 0, 11,
      65, 0, 32, 1, 54, 2, 8,
      32, 1);
    byte[] m = Kit.module(Kit.section(1, 1, Kit.type(INT, INT)), Kit.section(3, 1, 0), Kit.section(5, 1, 0, 1),
      Kit.section(6, 1, 127, 1, 65, 0, 11), Kit.section(7, 3, "f", 0, 0, "m", 2, 0, "g", 3, 0),
      Kit.section(10, 1, Kit.bodyWith(Kit.bytes(1, 1, 127), code)));
    int whole = 10 * 10 + 3 + 1;
    for (int tier = 0; tier < 2; tier++) {
      for (int pause = 1; pause < 12; pause++) {
        ModuleEngine e = Kit.engine(m);
        e.tier(tier);
        e.argument(10);
        e.call(0, 0);
        int done = 0;
        long sum = 0;
        for (int i = 0; i < 200 && e.state(0) == 1; i++) {
          int now = e.run(pause);
          done += now;
          Kit.due("steps so far", e.state(2), done);
          if (done <= whole - 4) {
            sum = 0;
            for (int k = 0; k < 10; k++) if (10 * k + 5 <= done) sum += 10 - k;
            Kit.due("the global after " + done + " steps, tier " + tier, e.global(0, 2), sum);
          }
          Kit.due("the memory after " + done + " steps, tier " + tier, e.memory(0, 1, 8), done >= whole - 1 ? 55 : 0);
          Kit.due("the state after " + done + " steps", e.state(0), done == whole ? 2 : 1);
        }
        Kit.due("all steps", done, whole);
        Kit.due("the value", e.value(0), 55);
        Kit.due("run(0) then", e.run(0), 0);
      }
    }
  }

  private static void control() {
    Kit.result("a branch drops what lies between", INT, Kit.bytes(65, 1, 2, 127, 65, 2, 65, 3, 65, 4, 12, 0, 11, 106), 5, 6);
    Kit.result("13 that is not taken", INT, Kit.bytes(2, 127, 65, 2, 65, 0, 13, 0, 26, 65, 8, 11), 8, 5);
    Kit.result("13 that is taken", INT, Kit.bytes(2, 127, 65, 2, 65, 5, 13, 0, 26, 65, 8, 11), 2, 3);
    Kit.result("a condition is 32 bits", INT, Kit.bytes(66, Kit.signed(1L << 32), 167, 4, 127, 65, 1, 5, 65, 2, 11), 2, 4);
    for (int k = -1; k < 5; k++) {
      long want = k == 0 ? 10 : k == 1 ? 20 : 30;
      byte[] code = Kit.bytes(2, 64, 2, 64, 2, 64, i32(k), 14, 2, 0, 1, 2, 11, 65, 10, 15, 11, 65, 20, 15, 11, 65, 30);
      Kit.result("14 with " + k, INT, code, want, k == 0 || k == 1 ? 4 : 3);
    }
    Kit.result("14 takes its value along", INT, Kit.bytes(2, 127, 2, 127, 65, 9, 65, 5, 14, 1, 0, 1, 11, 65, 1, 106, 11), 9, 3);
    Kit.result("27 the first", INT, Kit.bytes(65, 4, 65, 5, 65, 1, 27), 4, 4);
    Kit.result("27 the second", INT, Kit.bytes(65, 4, 65, 5, 65, 0, 27), 5, 4);
    Kit.result("28", INT, Kit.bytes(208, 112, 208, 112, 65, 0, 28, 1, 112, 209), 1, 5);
    Kit.result("a loop falls out of its end", INT, Kit.bytes(3, 127, 65, 4, 11), 4, 1);
    byte[] two = Kit.module(Kit.section(1, 2, Kit.type(new int[] {127, 126}, new int[] {126, 127}), Kit.type(NO, new int[] {126, 127})),
      Kit.section(3, 2, 0, 1), Kit.section(7, 1, "f", 0, 1),
      Kit.section(10, 2, Kit.body(32, 1, 32, 0), Kit.body(65, 5, 66, 6, 16, 0)));
    ModuleEngine e = Kit.engine(two);
    for (int tier = 0; tier < 2; tier++) {
      e.tier(tier);
      Kit.run(e, 0, 0);
      Kit.due("the first result", e.value(0), 6);
      Kit.due("the second result", e.value(1), 5);
      Kit.due("no third one", e.value(2), 0);
      Kit.due("none below", e.value(-1), 0);
      Kit.due("steps", e.state(2), 5);
    }
  }

  private static void variables() {
    byte[] locals = Kit.bytes(3, 1, 127, 1, 112, 1, 124);
    for (int tier = 0; tier < 2; tier++) {
      ModuleEngine e = Kit.engine(Kit.simpleWith(NO, new int[] {127, 112, 124}, locals, 32, 0, 32, 1, 32, 2));
      e.tier(tier);
      Kit.run(e, 0, 0);
      Kit.due("a local is 0", e.value(0), 0);
      Kit.due("a reference is none", e.value(1), -1);
      Kit.due("a floating one is 0", e.value(2), 0);
      e = Kit.engine(Kit.simpleWith(INT, INT, locals, 32, 0, 65, 100, 33, 0, 32, 0, 107));
      e.tier(tier);
      Kit.run(e, 0, 0, 3);
      Kit.due("what was put of a local stays as it was", e.value(0), (3 + 28) & 0xffffffffL);
      e = Kit.engine(Kit.simpleWith(INT, INT, locals, 32, 0, 32, 0, 65, 1, 106, 34, 0, 106, 32, 0, 106));
      e.tier(tier);
      Kit.run(e, 0, 0, 10);
      Kit.due("34 sets it and leaves it", e.value(0), 10 + 11 + 11);
      e = Kit.engine(Kit.simpleWith(INT, INT, locals, 32, 0, 2, 64, 32, 0, 13, 0, 65, 9, 33, 0, 11, 32, 0, 106));
      e.tier(tier);
      Kit.run(e, 0, 0, 0);
      Kit.due("a local set on one way only", e.value(0), 9);
      Kit.run(e, 0, 0, 4);
      Kit.due("and on the other", e.value(0), 8);
    }
  }

  private static void loads() {
    long bits = 0x8182838485868788L;
    int[][] rows = {{40, 127, 4, 0}, {41, 126, 8, 0}, {42, 125, 4, 0}, {43, 124, 8, 0}, {44, 127, 1, 1}, {45, 127, 1, 0}, {46, 127, 2, 1},
      {47, 127, 2, 0}, {48, 126, 1, 1}, {49, 126, 1, 0}, {50, 126, 2, 1}, {51, 126, 2, 0}, {52, 126, 4, 1}, {53, 126, 4, 0}};
    for (int[] r : rows) {
      long low = r[2] == 8 ? bits : bits & (1L << 8 * r[2]) - 1;
      if (r[3] == 1) low = low << 64 - 8 * r[2] >> 64 - 8 * r[2];
      if (r[1] == 127 || r[1] == 125) low &= 0xffffffffL;
      byte[] code = Kit.bytes(65, 5, Kit.constant(126, bits), 55, 0, 3, 65, 3, r[0], 0, 5);
      Kit.result("load " + r[0], new int[] {r[1]}, code, low, 5);
    }
    int[][] stores = {{54, 127, 4}, {55, 126, 8}, {56, 125, 4}, {57, 124, 8}, {58, 127, 1}, {59, 127, 2}, {60, 126, 1}, {61, 126, 2}, {62, 126, 4}};
    for (int[] r : stores) {
      byte[] code = Kit.bytes(65, 0, Kit.constant(126, -1), 55, 0, 0, 65, 0, Kit.constant(r[1], bits), r[0], 0, 0, 65, 0, 41, 0, 0);
      long value = r[1] == 127 || r[1] == 125 ? bits & 0xffffffffL : bits;
      long want = r[2] == 8 ? value : value & (1L << 8 * r[2]) - 1 | -1L << 8 * r[2];
      Kit.result("store " + r[0], new int[] {126}, code, want, 8);
    }
    for (int op = 40; op <= 62; op++) {
      int n = Reference.bytesOf(op);
      int kind = Reference.accessKind(op);
      byte[] value = op < 54 ? Kit.bytes() : Kit.constant(kind, 0);
      byte[] end = op < 54 ? Kit.bytes(26) : Kit.bytes();
      int before = op < 54 ? 2 : 3;
      Kit.trap(op + " beyond the end", Kit.bytes(i32(65536 - n + 1), value, op, 0, 0, end), 5, before);
      Kit.trap(op + " far beyond the end", Kit.bytes(i32(-1), value, op, 0, 255, 255, 255, 255, 15, end), 5, before);
      Kit.trap(op + " at the last byte, then 0", Kit.bytes(i32(65536 - n), value, op, 0, 0, end, 0), 1, op < 54 ? before + 2 : before + 1);
    }
  }

  private static void traps() {
    Kit.trap("0", Kit.bytes(0), 1, 1);
    Kit.trap("a quotient by 0", Kit.bytes(65, 1, 65, 0, 109, 26), 2, 3);
    Kit.trap("a quotient that is not there", Kit.bytes(66, Kit.signed(Long.MIN_VALUE), 66, 127, 127, 26), 3, 3);
    Kit.trap("NONE to whole", Kit.bytes(67, 0, 0, 192, 127, 168, 26), 4, 2);
    Kit.trap("INFINITE to whole", Kit.bytes(67, 0, 0, 128, 127, 168, 26), 3, 2);
    Kit.trap("37 beyond", Kit.bytes(65, 4, 37, 0, 26), 6, 2);
    Kit.trap("37 far beyond", Kit.bytes(65, 127, 37, 0, 26), 6, 2);
    Kit.trap("38 beyond", Kit.bytes(65, 4, 208, 112, 38, 0), 6, 3);
    Kit.trap("17 beyond", Kit.bytes(65, 4, 17, 0, 0), 7, 2);
    Kit.trap("17 far beyond", Kit.bytes(65, 127, 17, 0, 0), 7, 2);
    Kit.trap("17 at none", Kit.bytes(65, 3, 17, 0, 0), 8, 2);
    ModuleEngine e = Kit.engine(Kit.simple(NO, NO, 0));
    Kit.run(e, 0, 0);
    Kit.due("the latest trap", e.state(1), 1);
    e = Kit.engine(Kit.simple(INT, INT, 32, 0));
    Kit.run(e, 0, 0, 5);
    Kit.due("no trap ever", e.state(1), 0);
  }

  /** Memory of a page, tables of 4 (112) and 4 (111), two data (one active), an element of 3, one dropped. */
  private static byte[] segments(int[] results, Object... code) {
    return Kit.module(Kit.section(1, 2, Kit.type(NO, results), Kit.type(NO, NO)), Kit.section(3, 2, 0, 1), Kit.section(4, 2, 112, 0, 4, 111, 0, 4),
      Kit.section(5, 1, 0, 1), Kit.section(7, 4, "f", 0, 0, "m", 2, 0, "t", 1, 0, "u", 1, 1),
      Kit.section(9, 3, 1, 0, 3, 1, 0, 1, 0, 65, 0, 11, 1, 1, 7, 111, 1, 208, 111, 11), Kit.section(12, 2),
      Kit.section(10, 2, Kit.body(code), Kit.body()), Kit.section(11, 2, 1, 4, 1, 2, 3, 4, 0, 65, 0, 11, 3, 7, 8, 9));
  }

  private static void stretch(String what, int trap, Object... code) {
    for (int tier = 0; tier < 2; tier++) {
      ModuleEngine e = Kit.engine(segments(NO, code));
      e.tier(tier);
      Kit.run(e, 0, 0);
      Kit.due(what + ": state, tier " + tier, e.state(0), trap == 0 ? 2 : 3);
      Kit.due(what + ": trap, tier " + tier, e.state(1), trap);
    }
  }

  private static ModuleEngine ran(int tier, Object... code) {
    ModuleEngine e = Kit.engine(segments(NO, code));
    e.tier(tier);
    Kit.run(e, 0, 0);
    Kit.due("state", e.state(0), 2);
    return e;
  }

  private static byte[] three(long a, long b, long c) { return Kit.bytes(i32(a), i32(b), i32(c)); }

  private static void stretches() {
    stretch("8 as far as it goes", 0, three(65532, 0, 4), 252, 8, 0, 0);
    stretch("8 beyond the memory", 5, three(65533, 0, 4), 252, 8, 0, 0);
    stretch("8 beyond the data", 5, three(0, 1, 4), 252, 8, 0, 0);
    stretch("8 of 0 at the ends", 0, three(65536, 4, 0), 252, 8, 0, 0);
    stretch("8 of 0 beyond the memory", 5, three(65537, 0, 0), 252, 8, 0, 0);
    stretch("8 of 0 beyond the data", 5, three(0, 5, 0), 252, 8, 0, 0);
    stretch("8 from active data", 5, three(0, 0, 1), 252, 8, 1, 0);
    stretch("8 of 0 from active data", 0, three(0, 0, 0), 252, 8, 1, 0);
    stretch("8 behind 9", 5, 252, 9, 0, three(0, 0, 1), 252, 8, 0, 0);
    stretch("8 of 0 behind 9", 0, 252, 9, 0, 252, 9, 0, three(0, 0, 0), 252, 8, 0, 0);
    stretch("10 beyond, to", 5, three(1, 0, 65536), 252, 10, 0, 0);
    stretch("10 beyond, from", 5, three(0, 1, 65536), 252, 10, 0, 0);
    stretch("10 of all", 0, three(0, 0, 65536), 252, 10, 0, 0);
    stretch("10 of very many", 5, three(0, 0, -1), 252, 10, 0, 0);
    stretch("11 of all", 0, three(0, 1, 65536), 252, 11, 0);
    stretch("11 beyond", 5, three(65536, 1, 1), 252, 11, 0);
    stretch("11 of 0 at the end", 0, three(65536, 1, 0), 252, 11, 0);
    stretch("11 of 0 beyond", 5, three(65537, 1, 0), 252, 11, 0);
    stretch("12 as far as it goes", 0, three(1, 0, 3), 252, 12, 0, 0);
    stretch("12 beyond the table", 6, three(2, 0, 3), 252, 12, 0, 0);
    stretch("12 beyond the element", 6, three(0, 1, 3), 252, 12, 0, 0);
    stretch("12 from an active one", 6, three(0, 0, 1), 252, 12, 1, 0);
    stretch("12 from a declared one", 6, three(0, 0, 1), 252, 12, 2, 1);
    stretch("12 of 0 from a declared one", 0, three(4, 0, 0), 252, 12, 2, 1);
    stretch("12 behind 13", 6, 252, 13, 0, three(0, 0, 1), 252, 12, 0, 0);
    stretch("14 beyond, to", 6, three(2, 0, 3), 252, 14, 0, 0);
    stretch("14 beyond, from", 6, three(0, 2, 3), 252, 14, 0, 0);
    stretch("14 of 0 at the end", 0, three(4, 4, 0), 252, 14, 0, 0);
    stretch("14 of 0 beyond", 6, three(0, 5, 0), 252, 14, 0, 0);
    stretch("17 beyond", 6, i32(3), 208, 112, i32(2), 252, 17, 0);
    stretch("17 of 0 at the end", 0, i32(4), 208, 112, i32(0), 252, 17, 0);
    stretch("17 of 0 beyond", 6, i32(5), 208, 112, i32(0), 252, 17, 0);
    for (int tier = 0; tier < 2; tier++) moved(tier);
  }

  private static void moved(int tier) {
    ModuleEngine e = ran(tier, three(10, 1, 3), 252, 8, 0, 0);
    for (int i = 0; i < 5; i++) Kit.due("8: byte " + i, e.memory(0, 1, 9 + i), i >= 1 && i <= 3 ? i + 1 : 0);
    e = ran(tier, three(1, 0, 3), 252, 10, 0, 0);
    int[] up = {7, 7, 8, 9, 0};
    for (int i = 0; i < 5; i++) Kit.due("10 upwards: byte " + i, e.memory(0, 1, i), up[i]);
    e = ran(tier, three(0, 1, 3), 252, 10, 0, 0);
    int[] down = {8, 9, 0, 0};
    for (int i = 0; i < 4; i++) Kit.due("10 downwards: byte " + i, e.memory(0, 1, i), down[i]);
    e = ran(tier, three(2, 0x1ff, 2), 252, 11, 0);
    int[] filled = {7, 8, 255, 255, 0};
    for (int i = 0; i < 5; i++) Kit.due("11: byte " + i, e.memory(0, 1, i), filled[i]);
    e = ran(tier, three(1, 0, 3), 252, 12, 0, 0);
    int[] row = {1, 1, 0, 1};
    for (int i = 0; i < 4; i++) Kit.due("12: entry " + i, e.table(0, 2, i), row[i]);
    e = ran(tier, three(1, 0, 3), 252, 12, 0, 0, three(0, 2, 2), 252, 14, 0, 0);
    int[] back = {0, 1, 0, 1};
    for (int i = 0; i < 4; i++) Kit.due("14: entry " + i, e.table(0, 2, i), back[i]);
    e = ran(tier, three(1, 0, 3), 252, 12, 0, 0, three(1, 0, 3), 252, 14, 0, 0);
    int[] forth = {1, 1, 1, 0};
    for (int i = 0; i < 4; i++) Kit.due("14 upwards: entry " + i, e.table(0, 2, i), forth[i]);
    e = ran(tier, i32(1), 210, 0, i32(2), 252, 17, 0);
    int[] put = {1, 0, 0, -1};
    for (int i = 0; i < 4; i++) Kit.due("17: entry " + i, e.table(0, 2, i), put[i]);
    e = ran(tier, i32(2), 210, 0, 38, 0, i32(3), i32(2), 37, 0, 38, 0);
    Kit.due("37, 38", e.table(0, 2, 3), 0);
  }

  private static void growth() {
    for (int tier = 0; tier < 2; tier++) {
      ModuleEngine e = Kit.engine(Kit.simple(INT, INT, 32, 0, 64, 0));
      e.tier(tier);
      Kit.run(e, 0, 0, 0);
      Kit.due("by nothing", e.value(0), 1);
      Kit.run(e, 0, 0, 8);
      Kit.due("by more than there is", e.value(0), 0xffffffffL);
      Kit.run(e, 0, 0, -1);
      Kit.due("by very many", e.value(0), 0xffffffffL);
      Kit.due("pages left", e.state(8), 7);
      Kit.run(e, 0, 0, 7);
      Kit.due("by all", e.value(0), 1);
      Kit.due("pages left then", e.state(8), 0);
      Kit.due("pages", e.export(0, 1, 4), 8);
      Kit.due("a new page is 0", e.memory(0, 1, 8 * 65536 - 1), 0);
      Kit.due("behind it", e.memory(0, 1, 8 * 65536), -1);
      Kit.due("an address across pages", e.poke(0, 1, 65536, 5), true);
      Kit.due("there", e.memory(0, 1, 65536), 5);
      byte[] m = Kit.module(Kit.section(1, 1, Kit.type(INT, INT)), Kit.section(3, 2, 0, 0), Kit.section(4, 1, 112, 1, 2, 6),
        Kit.section(5, 1, 1, 1, 3), Kit.section(7, 4, "m", 0, 0, "t", 0, 1, "x", 1, 0, "y", 2, 0),
        Kit.section(10, 2, Kit.body(32, 0, 64, 0), Kit.body(210, 0, 32, 0, 252, 15, 0)));
      e = Kit.engine(m);
      e.tier(tier);
      Kit.run(e, 0, 0, 3);
      Kit.due("beyond the greatest", e.value(0), 0xffffffffL);
      Kit.run(e, 0, 0, 2);
      Kit.due("to the greatest", e.value(0), 1);
      Kit.run(e, 0, 1, 5);
      Kit.due("a table beyond the greatest", e.value(0), 0xffffffffL);
      Kit.run(e, 0, 1, 4);
      Kit.due("a table to the greatest", e.value(0), 2);
      Kit.due("entries left", e.state(9), 1024 - 6);
      Kit.due("an old entry", e.table(0, 2, 1), -1);
      Kit.due("a new entry", e.table(0, 2, 5), 0);
      e = Kit.engine(Kit.simple(INT, INT, 210, 0, 32, 0, 252, 15, 0));
      e.tier(tier);
      Kit.run(e, 0, 0, 1021);
      Kit.due("more entries than there are", e.value(0), 0xffffffffL);
      Kit.run(e, 0, 0, 1020);
      Kit.due("all entries", e.value(0), 4);
      Kit.due("no entries left", e.state(9), 0);
      Kit.result("63", INT, Kit.bytes(63, 0), 1, 1);
      Kit.result("252 16", INT, Kit.bytes(252, 16, 0), 4, 1);
    }
    // Loads and stores across two pages, and pages of two memories that grew by turns.
    byte[] cross = Kit.bytes(65, 7, 64, 0, 26, i32(65533), Kit.constant(126, 0x1122334455667788L), 55, 0, 0, i32(65533), 41, 0, 0);
    Kit.due("across", crossed(cross, 0), 0x1122334455667788L);
    Kit.due("across, registers", crossed(cross, 1), 0x1122334455667788L);
  }

  private static long crossed(byte[] code, int tier) {
    ModuleEngine e = Kit.engine(Kit.simple(NO, new int[] {126}, code));
    e.tier(tier);
    Kit.run(e, 0, 0);
    Kit.due("byte 65536", e.memory(0, 1, 65536), 0x55);
    return e.value(0);
  }

  private static void indirect() {
    byte[] m = Kit.module(
      Kit.section(1, 3, Kit.type(INT, INT), Kit.type(new int[] {126}, INT), Kit.type(INT, INT)),
      Kit.section(3, 3, 0, 1, 0), Kit.section(4, 2, 112, 0, 1, 112, 0, 3), Kit.section(7, 1, "f", 0, 2),
      Kit.section(9, 1, 2, 1, 65, 0, 11, 0, 2, 0, 1),
      Kit.section(10, 3, Kit.body(32, 0, 65, 1, 106), Kit.body(65, 9), Kit.body(65, 20, 32, 0, 17, 2, 1)));
    for (int tier = 0; tier < 2; tier++) {
      ModuleEngine e = Kit.engine(m);
      e.tier(tier);
      Kit.run(e, 0, 0, 0);
      Kit.due("types of the same rows", e.value(0), 21);
      Kit.due("steps", e.state(2), 6);
      Kit.run(e, 0, 0, 1);
      Kit.due("other rows", e.state(1), 9);
      Kit.due("steps", e.state(2), 3);
      Kit.run(e, 0, 0, 2);
      Kit.due("none", e.state(1), 8);
      Kit.run(e, 0, 0, 3);
      Kit.due("beyond", e.state(1), 7);
    }
  }

  private static void host() {
    byte[] m = Kit.module(
      Kit.section(1, 3, Kit.type(new int[] {127, 126}, new int[] {126}), Kit.type(NO, NO), Kit.type(NO, new int[] {126})),
      Kit.section(2, 2, "", "", 0, 0, "", "", 0, 1), Kit.section(3, 1, 2),
      Kit.section(7, 3, "g", 0, 2, "h", 0, 0, "k", 0, 1),
      Kit.section(10, 1, Kit.body(65, 5, 66, 6, 16, 0, 66, 1, 124, 16, 1)));
    for (int tier = 0; tier < 2; tier++) {
      ModuleEngine e = new ModuleEngine();
      Kit.load(e, m);
      e.offer(-1, 63);
      e.offer(-1, 0);
      Kit.due("make", e.make(0), 0);
      e.tier(tier);
      Kit.due("call", e.call(0, 0), true);
      Kit.due("run", e.run(50), 3);
      Kit.due("asked", e.state(0), 5);
      Kit.due("which", e.state(4), 63);
      Kit.due("frames", e.state(3), 1);
      Kit.due("its first argument", e.value(0), 5);
      Kit.due("its second argument", e.value(1), 6);
      Kit.due("no third one", e.value(2), 0);
      Kit.due("it does not run meanwhile", e.run(5), 0);
      Kit.due("no call meanwhile", e.call(0, 0), false);
      Kit.due("no make meanwhile", e.make(0), -10);
      Kit.due("an answer without results", e.answer(), false);
      e.argument(40);
      e.argument(41);
      Kit.due("an answer with too many", e.answer(), false);
      Kit.due("give", e.give(), true);
      Kit.due("none asked then", e.state(4), -1);
      Kit.due("no values then", e.value(0), 0);
      Kit.due("give twice", e.give(), false);
      Kit.due("two arguments are still there", e.argument(1), 3);
      for (int i = 3; i < 16; i++) e.argument(i);
      Kit.due("16 at most", e.argument(9), -1);
    }
    for (int tier = 0; tier < 2; tier++) {
      ModuleEngine e = new ModuleEngine();
      Kit.load(e, m);
      e.offer(-1, 7);
      e.offer(-1, 8);
      e.make(0);
      e.tier(tier);
      e.call(0, 0);
      e.run(3);
      e.argument(40);
      Kit.due("answer", e.answer(), true);
      Kit.due("it goes on", e.state(0), 1);
      Kit.due("no values meanwhile", e.value(0), 0);
      Kit.due("and is asked again", e.run(50), 3);
      Kit.due("another one", e.state(4), 8);
      Kit.due("answer without results", e.answer(), true);
      Kit.due("what is no step behind it is done: it has ended", e.state(0), 2);
      Kit.due("value", e.value(0), 41);
      Kit.due("steps", e.state(2), 6);
      Kit.due("no answer now", e.answer(), false);
      e.argument(1L << 40 | 3);
      e.argument(-2);
      Kit.due("a function of HOST from outside", e.call(0, 1), true);
      Kit.due("is asked at once", e.state(0), 5);
      Kit.due("without steps", e.state(2), 0);
      Kit.due("without frames", e.state(3), 0);
      Kit.due("32 bits are told", e.value(0), 3);
      Kit.due("64 bits are told", e.value(1), -2);
      e.argument(77);
      Kit.due("answer", e.answer(), true);
      Kit.due("it has ended", e.state(0), 2);
      Kit.due("with what was answered", e.value(0), 77);
      Kit.due("only that", e.value(1), 0);
    }
  }

  private static void frames() {
    for (int tier = 0; tier < 2; tier++) {
      ModuleEngine e = Kit.engine(Kit.simple(INT, NO, 32, 0, 4, 64, 32, 0, 65, 1, 107, 16, 0, 11));
      e.tier(tier);
      e.argument(199);
      e.call(0, 0);
      int most = 0;
      for (int i = 0; i < 5000 && e.state(0) == 1; i++) {
        e.run(1);
        most = Math.max(most, e.state(3));
      }
      Kit.due("200 frames", most, 200);
      Kit.due("ended", e.state(0), 2);
      Kit.due("steps", e.state(2), 199 * 6 + 2);
      e.argument(200);
      e.call(0, 0);
      Kit.due("201 frames", e.run(100000), 200 * 6);
      Kit.due("exhausted", e.state(0), 4);
      Kit.due("no trap", e.state(1), 0);
      Kit.due("no frames", e.state(3), 0);
      Kit.due("it can be called again", e.call(0, 0), false);
      e.argument(0);
      Kit.due("with an argument", e.call(0, 0), true);
      e.run(9);
      Kit.due("ended", e.state(0), 2);
    }
  }

  private static void tiers() {
    byte[] m = Kit.module(Kit.section(1, 1, Kit.type(NO, NO)), Kit.section(3, 2, 0, 0), Kit.section(7, 2, "a", 0, 0, "b", 0, 1),
      Kit.section(10, 2, Kit.body(16, 1, 16, 1), Kit.body(1)));
    ModuleEngine e = Kit.engine(m);
    Kit.due("at first", e.tier(3), 0);
    Kit.run(e, 0, 0);
    Kit.due("after 1 and 2 frames", e.state(11), 0);
    Kit.due("what it was", e.tier(3), 3);
    e.call(0, 0);
    e.run(1);
    Kit.due("at the third frame", e.state(11), 1);
    e.run(9);
    Kit.run(e, 0, 0);
    Kit.due("both", e.state(11), 2);
    e.tier(0);
    Kit.due("for good", e.state(11), 2);
    e = Kit.engine(m);
    for (int i = 0; i < 4; i++) Kit.run(e, 0, 0);
    Kit.due("never", e.state(11), 0);
    e.tier(2);
    Kit.due("not before the next frame", e.state(11), 0);
    Kit.run(e, 0, 1);
    Kit.due("from the n-th one on", e.state(11), 1);
    Kit.due("below 0", e.tier(-1), -1);
    Kit.due("which does nothing", e.tier(5), 2);
    e = Kit.engine(Kit.simple(NO, NO, Kit.times(5000, 1)));
    e.tier(1);
    Kit.run(e, 0, 0);
    Kit.due("a long function counts, too", e.state(11), 1);
    Kit.due("its steps", e.state(2), 5000);
    Kit.due("never other types", e.state(12), 0);
  }
}
