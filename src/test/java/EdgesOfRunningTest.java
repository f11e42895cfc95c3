import java.util.Arrays;

/**
 * Part V, sentence by sentence, where it names an edge: which instructions are steps, frames and values at their most,
 * addresses and stretches at the ends, growth up to the greatest, and the changing over. Each on both machines.
 */
public final class EdgesOfRunningTest {
  private static final int[] NO = {};
  private static final int[] INT = {127};
  private static final int[] LONG = {126};

  public static void main(String[] args) {
    stepOfEach();
    noSteps();
    stepsBySteps();
    localsAtFirst();
    valuesOfBranches();
    twoHundredFrames();
    framesByTable();
    hostHasNoFrame();
    valuesAsked();
    valuesOfSeveral();
    exhaustedStep();
    roomIsGivenBack();
    conditions();
    labelByNumber();
    choices();
    addresses();
    storesBeyond();
    extensions();
    globals();
    references();
    tableEntries();
    callsByTable();
    sizesNow();
    growMemory();
    growTable();
    growthShared();
    stretchesOfMemory();
    stretchesOfTables();
    movedAsIfTaken();
    droppedSegments();
    trapsOfOperators();
    changingOver();
    changingOverPerFunction();
    changingOverUncounted();
    asked();
    askedWithSixteen();
    deadCode();
    ahead();
    operandsBelow();
    severalFunctions();
    acrossInstances();
    mixedTypes();
    Kit.finish();
  }

  private static byte[] i32(long v) { return Kit.constant(127, v); }

  private static byte[] three(long a, long b, long c) { return Kit.bytes(i32(a), i32(b), i32(c)); }

  /** Calls export 0 on both machines, once with all steps and then in pieces: state, trap, steps and values; all seen alike. */
  private static void ends(String what, byte[] m, long[] arguments, int state, int trap, int steps, long... values) {
    for (int piece : new int[] {100000, 1, 2, 3}) {
      ModuleEngine[] both = {Kit.engine(m), Kit.engine(m)};
      for (int tier = 0; tier < 2; tier++) {
        both[tier].tier(tier);
        for (long a : arguments) both[tier].argument(a);
        Kit.due(what + ": call", both[tier].call(0, 0), true);
      }
      for (int i = 0; i < 5000 && both[0].state(0) == 1; i++) {
        Kit.due(what + ": seen alike after " + i * piece, Arrays.equals(Kit.seen(both[0]), Kit.seen(both[1])), true);
        Kit.due(what + ": steps of run()", both[0].run(piece), both[1].run(piece));
      }
      for (int tier = 0; tier < 2; tier++) {
        String which = what + ", tier " + tier + ", by " + piece;
        Kit.due(which + ": state", both[tier].state(0), state);
        Kit.due(which + ": trap", both[tier].state(1), trap);
        Kit.due(which + ": steps", both[tier].state(2), steps);
        Kit.due(which + ": frames", both[tier].state(3), 0);
        for (int k = 0; k < values.length; k++) Kit.due(which + ": value " + k, both[tier].value(k), values[k]);
        Kit.due(which + ": other types", both[tier].state(12), 0);
      }
      Kit.due(what + ": seen alike", Arrays.equals(Kit.seen(both[0]), Kit.seen(both[1])), true);
    }
  }

  private static void gives(String what, int[] results, byte[] code, int steps, long... values) {
    ends(what, Kit.simple(NO, results, code), new long[0], 2, 0, steps, values);
  }

  private static void traps(String what, byte[] code, int trap, int steps) {
    ends(what, Kit.simple(NO, NO, code), new long[0], 3, trap, steps);
  }

  private static byte[] operand(char c) {
    return c == 'i' ? i32(3) : c == 'l' ? Kit.bytes(66, 3) : c == 'f' ? Kit.constant(125, 0x40000000L) : Kit.constant(124, 0x4000000000000000L);
  }

  /** Each instruction that is done is a STEP. */
  private static void stepOfEach() {
    for (int op = 69; op <= 1007; op++) {
      if (op == 197) op = 1000;
      String s = Reference.Ops.signature(op);
      byte[] in = {};
      for (int i = 0; i < s.length() - 1; i++) in = Kit.bytes(in, operand(s.charAt(i)));
      gives("operator " + op, NO, Kit.bytes(in, op < 1000 ? Kit.bytes(op) : Kit.bytes(252, op - 1000), 26), s.length() + 1);
    }
    for (int op = 40; op <= 62; op++) {
      byte[] value = op < 54 ? Kit.bytes() : Kit.constant(Reference.accessKind(op), 1);
      gives("instruction " + op, NO, Kit.bytes(i32(8), value, op, 0, 0, op < 54 ? Kit.bytes(26) : Kit.bytes()), 3);
    }
    gives("1, 1", NO, Kit.bytes(1, 1), 2);
    gives("12", NO, Kit.bytes(2, 64, 12, 0, 11), 1);
    gives("13, not taken", NO, Kit.bytes(2, 64, 65, 0, 13, 0, 11), 2);
    gives("13, taken", NO, Kit.bytes(2, 64, 65, 1, 13, 0, 11), 2);
    gives("14", NO, Kit.bytes(2, 64, 65, 0, 14, 0, 0, 11), 2);
    gives("15", NO, Kit.bytes(15), 1);
    gives("27", NO, Kit.bytes(65, 0, 65, 0, 65, 0, 27, 26), 5);
    gives("28", NO, Kit.bytes(65, 0, 65, 0, 65, 0, 28, 1, 127, 26), 5);
    gives("63, 64", NO, Kit.bytes(63, 0, 64, 0, 26), 3);
    gives("208, 209, 210", NO, Kit.bytes(208, 111, 209, 26, 210, 0, 26), 5);
    gives("37, 38", NO, Kit.bytes(65, 1, 65, 0, 37, 0, 38, 0), 4);
    gives("252 10, 11", NO, Kit.bytes(three(0, 0, 0), 252, 10, 0, 0, three(0, 0, 0), 252, 11, 0), 8);
    gives("252 14, 17", NO, Kit.bytes(three(0, 0, 0), 252, 14, 0, 0, i32(0), 208, 112, i32(0), 252, 17, 0), 8);
    gives("252 15, 16", NO, Kit.bytes(208, 112, 65, 0, 252, 15, 0, 26, 252, 16, 0, 26), 6);
    byte[] locals = Kit.simpleWith(NO, NO, Kit.bytes(1, 1, 127), 32, 0, 33, 0, 32, 0, 34, 0, 26);
    ends("32, 33, 34", locals, new long[0], 2, 0, 5);
  }

  /** 2, 3, 5, 11 are none: they are done with the step (or the call) ahead of them, as is the end of a function. */
  private static void noSteps() {
    gives("nothing", NO, Kit.bytes(), 0);
    gives("blocks of nothing", NO, Kit.bytes(2, 64, 3, 64, 2, 64, 11, 11, 11, 3, 64, 11), 0);
    gives("blocks around one", INT, Kit.bytes(2, 127, 3, 127, 2, 127, 65, 7, 11, 11, 11), 1, 7);
    gives("4 that is not taken, to the end", NO, Kit.bytes(65, 0, 4, 64, 1, 1, 11), 2);
    gives("4 that is taken", NO, Kit.bytes(65, 1, 4, 64, 1, 1, 11), 4);
    gives("4 with a 5 of nothing", NO, Kit.bytes(65, 0, 4, 64, 1, 5, 11), 2);
    gives("4 with nothing ahead of 5", NO, Kit.bytes(65, 1, 4, 64, 5, 1, 11), 2);
    gives("4 in 4, out by two 5", NO, Kit.bytes(65, 1, 4, 64, 65, 1, 4, 64, 1, 5, 1, 1, 11, 5, 1, 11), 5);
    byte[] nested = Kit.module(Kit.section(1, 1, Kit.type(NO, NO)), Kit.section(3, 3, 0, 0, 0), Kit.section(7, 1, "f", 0, 0),
      Kit.section(10, 3, Kit.body(16, 1), Kit.body(16, 2), Kit.body(2, 64, 11)));
    ends("a call of nothing: all ends with its step", nested, new long[0], 2, 0, 2);
    for (int tier = 0; tier < 2; tier++) {
      ModuleEngine e = Kit.engine(Kit.simple(NO, NO, 2, 64, 11));
      e.tier(tier);
      e.call(0, 0);
      Kit.due("without steps it has ended with the call", e.state(0), 2);
      e = Kit.engine(nested);
      e.tier(tier);
      e.call(0, 0);
      Kit.due("frames", e.state(3), 1);
      e.run(1);
      Kit.due("frames then", e.state(3), 2);
      e.run(1);
      Kit.due("ended", e.state(0), 2);
      e = Kit.engine(Kit.simple(NO, NO, 65, 1, 26, 2, 64, 3, 64, 11, 11));
      e.tier(tier);
      e.call(0, 0);
      e.run(1);
      Kit.due("one step is left", e.state(0), 1);
      e.run(1);
      Kit.due("blocks of nothing are done with the step ahead of them", e.state(0), 2);
    }
  }

  /** The same in pieces of any size: ways that meet with steps ahead of them, constants and locals that wait. */
  private static void stepsBySteps() {
    byte[] meets = Kit.bytes(2, 64, 32, 0, 13, 0, 1, 65, 7, 33, 0, 1, 1, 11, 32, 0, 65, 1, 106);
    ends("steps ahead of where ways meet", Kit.simple(INT, INT, meets), new long[] {0}, 2, 0, 10, 8);
    ends("steps of the other way", Kit.simple(INT, INT, meets), new long[] {5}, 2, 0, 5, 6);
    byte[] carried = Kit.bytes(65, 100, 2, 127, 65, 1, 32, 0, 13, 0, 26, 32, 0, 1, 11, 32, 0, 106, 106);
    ends("values that meet", Kit.simple(INT, INT, carried), new long[] {0}, 2, 0, 10, (0 - 28) & 0xffffffffL);
    ends("values of the other way", Kit.simple(INT, INT, carried), new long[] {9}, 2, 0, 7, (1 + 9 - 28) & 0xffffffffL);
    byte[] loop = Kit.bytes(65, 9, 2, 127, 65, 3, 3, 0, 32, 0, 69, 13, 1, 32, 0, 65, 1, 107, 33, 0, 65, 2, 108, 12, 0, 11, 11, 106);
    ends("a loop behind other code, with a value", Kit.simple(INT, INT, loop), new long[] {0}, 2, 0, 6, 12);
    ends("which goes round three times", Kit.simple(INT, INT, loop), new long[] {3}, 2, 0, 2 + 4 * 3 + 3 * 7 + 1, 33);
    byte[] ways = Kit.bytes(2, 127, 2, 127, 65, 7, 32, 0, 14, 2, 0, 1, 0, 11, 65, 1, 106, 11, 65, 2, 106);
    for (int k = 0; k < 4; k++) {
      boolean inner = k != 1;
      ends("14 that carries a constant, by " + k, Kit.simple(INT, INT, ways), new long[] {k}, 2, 0, inner ? 7 : 5, inner ? 10 : 9);
    }
    byte[] kept = Kit.bytes(32, 0, 32, 0, 65, 5, 34, 0, 32, 0, 106, 106, 106);
    ends("what was put of a local, when it is set", Kit.simple(INT, INT, kept), new long[] {3}, 2, 0, 8, 16);
    byte[] function = Kit.bytes(32, 0, 13, 0, 65, 9, 33, 0, 32, 0, 13, 0, 0);
    ends("the function's label behind what is dead", Kit.simple(INT, NO, function), new long[] {4}, 2, 0, 2);
    ends("by its second branch", Kit.simple(INT, NO, function), new long[] {0}, 2, 0, 6);
    byte[] many = Kit.bytes(2, 64, 32, 0, 13, 0, 32, 0, 65, 1, 106, 34, 0, 13, 0, 0, 11, 32, 0);
    ends("several branches to one label: the first", Kit.simple(INT, INT, many), new long[] {4}, 2, 0, 3, 4);
    ends("the second", Kit.simple(INT, INT, many), new long[] {0}, 2, 0, 8, 1);
    ends("none of them", Kit.simple(INT, INT, many), new long[] {-1}, 2, 0, 3, 0xffffffffL);
  }

  /** A frame's locals that are no parameters are 0, references none: also when others were there before. */
  private static void localsAtFirst() {
    int[] kinds = {127, 126, 125, 124, 112, 111};
    byte[] locals = Kit.bytes(6, 1, 127, 1, 126, 1, 125, 1, 124, 1, 112, 1, 111);
    byte[] reads = {};
    for (int i = 0; i < 6; i++) reads = Kit.bytes(reads, 32, 1 + i);
    byte[] writes = Kit.bytes(65, 1, 33, 1, 66, 1, 33, 2, 67, 1, 1, 1, 1, 33, 3, 68, 1, 1, 1, 1, 1, 1, 1, 1, 33, 4, 210, 0, 33, 5);
    byte[] m = Kit.simpleWith(INT, kinds, locals, reads, writes);
    for (int tier = 0; tier < 2; tier++) {
      ModuleEngine e = Kit.engine(m);
      e.tier(tier);
      for (int turn = 0; turn < 3; turn++) {
        Kit.run(e, 0, 0, 77);
        for (int i = 0; i < 6; i++) Kit.due("local " + i + " of call " + turn, e.value(i), i < 4 ? 0 : -1);
      }
    }
    byte[] twice = Kit.bytes(32, 0, 4, 64, 65, 0, 16, 0, 26, 11, 32, 1, 65, 9, 33, 1);
    ends("of a frame in a frame", Kit.simpleWith(INT, INT, Kit.bytes(1, 1, 127), twice), new long[] {1}, 2, 0, 13, 0);
  }

  /** Values that a branch wants stay, what lies between them and the label's height goes. */
  private static void valuesOfBranches() {
    for (int between = 0; between < 4; between++) {
      byte[] more = Kit.times(between, 65, 50);
      byte[] code = Kit.bytes(65, 1, 2, 127, more, 65, 4, 12, 0, 11, 106);
      gives("12 over " + between, INT, code, 4 + between, 5);
      byte[] taken = Kit.bytes(65, 1, 2, 127, more, 65, 4, 65, 1, 13, 0, Kit.times(between, 106), 11, 106);
      gives("13 over " + between, INT, taken, 5 + between, 5);
      byte[] row = Kit.bytes(65, 1, 2, 127, more, 65, 4, 65, 0, 14, 1, 0, 0, 11, 106);
      gives("14 over " + between, INT, row, 5 + between, 5);
      gives("15 over " + between, INT, Kit.bytes(more, 65, 4, 15), 2 + between, 4);
      gives("15 in a block over " + between, INT, Kit.bytes(more, 2, 64, more, 65, 4, 15, 11, 0), 2 + 2 * between, 4);
    }
    byte[] two = Kit.module(Kit.section(1, 2, Kit.type(NO, INT), Kit.type(NO, new int[] {127, 127})), Kit.section(3, 1, 0), Kit.section(7, 1, "f", 0, 0),
      Kit.section(10, 1, Kit.body(65, 100, 2, 1, 65, 1, 65, 2, 65, 9, 65, 4, 12, 0, 11, 107, 106)));
    ends("two values", two, new long[0], 2, 0, 8, (9 - 4 - 28) & 0xffffffffL);
  }

  /** At most 200 FRAMES, one for each function of a module that runs. */
  private static void twoHundredFrames() {
    byte[] code = Kit.bytes(32, 0, 4, 64, 32, 0, 65, 1, 107, 16, 0, 11);
    for (int depth : new int[] {0, 1, 198, 199}) ends(depth + 1 + " frames", Kit.simple(INT, NO, code), new long[] {depth}, 2, 0, depth * 6 + 2);
    for (int depth : new int[] {200, 201, 1000}) ends(depth + 1 + " frames", Kit.simple(INT, NO, code), new long[] {depth}, 4, 0, 1200);
    for (int tier = 0; tier < 2; tier++) {
      ModuleEngine e = Kit.engine(Kit.simple(INT, NO, code));
      e.tier(tier);
      e.argument(200);
      e.call(0, 0);
      e.run(6 * 199);
      Kit.due("200 frames", e.state(3), 200);
      e.run(5);
      Kit.due("200 frames still", e.state(3), 200);
      e.run(1);
      Kit.due("no frames when it is exhausted", e.state(3), 0);
      Kit.due("exhausted", e.state(0), 4);
    }
  }

  /** Also by 17. */
  private static void framesByTable() {
    byte[] m = Kit.module(Kit.section(1, 1, Kit.type(INT, NO)), Kit.section(3, 1, 0), Kit.section(4, 1, 112, 0, 1), Kit.section(7, 1, "f", 0, 0),
      Kit.section(9, 1, 0, 65, 0, 11, 1, 0), Kit.section(10, 1, Kit.body(32, 0, 4, 64, 32, 0, 65, 1, 107, 65, 0, 17, 0, 0, 11)));
    ends("200 frames by 17", m, new long[] {199}, 2, 0, 199 * 7 + 2);
    ends("201 frames by 17", m, new long[] {200}, 4, 0, 1400);
  }

  /** A function of HOST that is called (a step; no frame) stops it, also with 200 frames. */
  private static void hostHasNoFrame() {
    byte[] m = Kit.module(Kit.section(1, 2, Kit.type(INT, NO), Kit.type(NO, NO)), Kit.section(2, 1, "", "", 0, 1), Kit.section(3, 1, 0), Kit.section(7, 1, "f", 0, 1),
      Kit.section(10, 1, Kit.body(32, 0, 4, 64, 32, 0, 65, 1, 107, 16, 1, 5, 16, 0, 11)));
    for (int tier = 0; tier < 2; tier++) {
      ModuleEngine e = new ModuleEngine();
      Kit.load(e, m);
      e.offer(-1, 5);
      e.make(0);
      e.tier(tier);
      e.argument(199);
      e.call(0, 0);
      Kit.due("steps", e.run(100000), 199 * 6 + 3);
      Kit.due("asked", e.state(0), 5);
      Kit.due("which", e.state(4), 5);
      Kit.due("frames", e.state(3), 200);
      Kit.due("answered", e.answer(), true);
      Kit.due("ended with that", e.state(0), 2);
      Kit.due("steps", e.state(2), 199 * 6 + 3);
    }
  }

  /** How many frames of a function that calls itself there can be. */
  private static void frames(String what, int want, int[] params, byte[] locals, Object... code) {
    byte[] given = {};
    for (int i = 0; i < params.length; i++) given = Kit.bytes(given, 32, i);
    for (int tier = 0; tier < 2; tier++) {
      ModuleEngine e = Kit.engine(Kit.simpleWith(params, NO, locals, given, 16, 0, Kit.bytes(code)));
      e.tier(tier);
      for (int i = 0; i < params.length; i++) e.argument(1);
      e.call(0, 0);
      int each = params.length + 1;
      Kit.due(what + ": steps", e.run(100000), want * each);
      Kit.due(what + ": state", e.state(0), 4);
      for (int i = 0; i < params.length; i++) e.argument(1);
      e.call(0, 0);
      e.run(each * (want - 1));
      Kit.due(what + ": frames", e.state(3), want);
      e.run(each);
      Kit.due(what + ": and no more", e.state(0), 4);
    }
  }

  private static byte[] locals(long n) { return n == 0 ? Kit.bytes(0) : Kit.bytes(1, n, 127); }

  private static byte[] put(int n) { return Kit.times(n, 65, 0); }

  /** 4096 VALUES: a frame asks for its locals (parameters, too) and for the most operands behind any of its instructions. */
  private static void valuesAsked() {
    for (int each : new int[] {16, 20, 21, 31, 32, 33, 63, 64, 65, 127, 128, 129, 255, 256, 257, 512, 513, 1000})
      frames(each + " locals", Math.min(200, 4096 / each), NO, locals(each));
    frames("1000 locals and 24 operands", 4, NO, locals(1000), 0, put(24), 0);
    frames("1000 locals and 25 operands", 3, NO, locals(1000), 0, put(25), 0);
    frames("24 locals and 1000 operands", 4, NO, locals(24), 0, put(1000), 0);
    frames("25 locals and 1000 operands", 3, NO, locals(25), 0, put(1000), 0);
    frames("1000 locals and 1000 operands", 2, NO, locals(1000), 0, put(1000), 0);
    int[] sixteen = new int[16];
    Arrays.fill(sixteen, 127);
    frames("16 parameters, given as 16 operands", 4096 / 32, sixteen, locals(0));
    frames("16 parameters and 992 locals", 4, sixteen, locals(992));
    frames("16 parameters and 993 locals", 3, sixteen, locals(993));
    frames("operands that come and go", 4096 / 128, NO, locals(100), 0, put(28), Kit.times(28, 26), put(27), 0);
    frames("one more", 4096 / 129, NO, locals(100), 0, put(29), Kit.times(29, 26), put(27), 0);
    frames("operands in blocks", 4096 / 128, NO, locals(100), 0, put(20), 2, 64, put(8), 0, 11, 0);
    frames("one more in blocks", 4096 / 129, NO, locals(100), 0, put(20), 2, 64, put(9), 0, 11, 0);
    frames("what is taken in the dead is not counted", 4096 / 128, NO, locals(127), 0, 106, 26, 27, 26, 26, 26, 26, 54, 0, 0);
    frames("what is put there is", 4096 / 128, NO, locals(126), 0, 106, 65, 0, 26, 26);
    frames("one more is", 4096 / 129, NO, locals(126), 0, 106, 65, 0, 106, 65, 0, 65, 0, 26, 26, 26);
    frames("13 there puts its label's", 4096 / 129, NO, locals(128), 0, 2, 127, 0, 13, 0, 11, 26);
    frames("14 there leaves none", 4096 / 128, NO, locals(127), 0, 2, 127, 0, 14, 2, 0, 0, 0, 11, 26);
  }

  private static byte[] chain(int first, int second, int third) {
    int[] asks = {first, second, third};
    byte[] bodies = {};
    for (int i = 0; i < 3; i++) {
      int own = Math.min(1000, asks[i]);
      int operands = asks[i] - own;
      byte[] call = i < 2 ? Kit.bytes(16, i + 1) : Kit.bytes();
      bodies = Kit.bytes(bodies, Kit.bodyWith(locals(own), call, 2, 64, put(operands), Kit.times(operands, 26), 11));
    }
    return Kit.module(Kit.section(1, 1, Kit.type(NO, NO)), Kit.section(3, 3, 0, 0, 0), Kit.section(7, 1, "f", 0, 0), Kit.section(10, 3, bodies));
  }

  /** All frames for the sum of that. */
  private static void valuesOfSeveral() {
    ends("2000 + 2000 + 96", chain(2000, 2000, 96), new long[0], 2, 0, 2 + 4000);
    ends("2000 + 2000 + 97", chain(2000, 2000, 97), new long[0], 4, 0, 2);
    ends("1500 + 1500 + 1096", chain(1500, 1500, 1096), new long[0], 2, 0, 2 + 2000 + 192);
    ends("1500 + 1500 + 1097", chain(1500, 1500, 1097), new long[0], 4, 0, 2);
  }

  /** A call that would need more is a step and EXHAUSTS. */
  private static void exhaustedStep() {
    byte[] m = Kit.simple(NO, NO, 16, 0);
    ends("200 calls, the last of which exhausts", m, new long[0], 4, 0, 200);
    for (int tier = 0; tier < 2; tier++) {
      ModuleEngine e = Kit.engine(Kit.simple(NO, NO, 65, 0, 65, 7, 58, 0, 0, 16, 0));
      e.tier(tier);
      e.call(0, 0);
      Kit.due("all steps", e.run(100000), 800);
      Kit.due("what was done stays", e.memory(0, 1, 0), 7);
      Kit.due("no trap", e.state(1), 0);
      Kit.due("no value", e.value(0), 0);
      Kit.due("no steps more", e.run(5), 0);
      Kit.due("nothing to give up", e.give(), false);
    }
  }

  /** Frames and values are all there again for the next call, however the last one stopped. */
  private static void roomIsGivenBack() {
    byte[] m = Kit.module(Kit.section(1, 1, Kit.type(INT, NO)), Kit.section(3, 1, 0), Kit.section(7, 1, "f", 0, 0),
      Kit.section(10, 1, Kit.bodyWith(locals(1000), 32, 0, 4, 64, 32, 0, 65, 1, 107, 16, 0, 11, 32, 0, 69, 4, 64, 0, 11)));
    for (int tier = 0; tier < 2; tier++) {
      ModuleEngine e = Kit.engine(m);
      e.tier(tier);
      for (int turn = 0; turn < 6; turn++) {
        e.argument(3);
        e.call(0, 0);
        Kit.due("trapped in the fourth frame", e.run(1000), 3 * 6 + 6);
        Kit.due("state", e.state(0), 3);
        e.argument(4);
        e.call(0, 0);
        Kit.due("exhausted by the fifth", e.run(1000), 4 * 6);
        Kit.due("state", e.state(0), 4);
        e.argument(4);
        e.call(0, 0);
        e.run(3 * 6 + 1);
        Kit.due("given up with four", e.state(3), 4);
        e.give();
      }
    }
    byte[] loop = Kit.module(Kit.section(1, 2, Kit.type(INT, INT), Kit.type(NO, NO)), Kit.section(3, 2, 0, 1), Kit.section(7, 1, "f", 0, 0),
      Kit.section(10, 2, Kit.body(3, 64, 16, 1, 32, 0, 65, 1, 107, 34, 0, 13, 0, 11, 32, 0), Kit.bodyWith(locals(1000))));
    ends("a call again and again", loop, new long[] {20}, 2, 0, 20 * 6 + 1, 0);
  }

  /** 4 and 13 go by a value of 32 bits that is not 0. */
  private static void conditions() {
    long[] values = {0, 1, 2, -1, 0x80000000L, 0x7fffffffL, 0x100, 0x10000, 0x1000000};
    byte[] four = Kit.simple(INT, INT, 32, 0, 4, 127, 65, 1, 5, 65, 2, 11);
    byte[] thirteen = Kit.simple(INT, INT, 2, 127, 65, 1, 32, 0, 13, 0, 26, 65, 2, 11);
    byte[] choice = Kit.simple(INT, INT, 65, 1, 65, 2, 32, 0, 27);
    for (long v : values) {
      long want = v != 0 ? 1 : 2;
      ends("4 by " + v, four, new long[] {v}, 2, 0, 3, want);
      ends("13 by " + v, thirteen, new long[] {v}, 2, 0, v != 0 ? 3 : 5, want);
      ends("27 by " + v, choice, new long[] {v}, 2, 0, 4, want);
    }
    ends("4 by what is above 32 bits", four, new long[] {1L << 32}, 2, 0, 3, 2);
    ends("13 by what is above 32 bits", thirteen, new long[] {1L << 32}, 2, 0, 5, 2);
    ends("27 by what is above 32 bits", choice, new long[] {1L << 32}, 2, 0, 4, 2);
  }

  /** 14 by the label of that number (without sign) in its row, the last one beyond it. */
  private static void labelByNumber() {
    for (int n = 0; n < 4; n++) {
      byte[] row = {};
      for (int i = 0; i < n; i++) row = Kit.bytes(row, i);
      byte[] code = Kit.bytes(2, 64, 2, 64, 2, 64, 2, 64, 32, 0, 14, n, row, 3, 11, 65, 10, 15, 11, 65, 11, 15, 11, 65, 12, 15, 11, 65, 13);
      for (long k : new long[] {0, 1, 2, 3, 4, 2147483647, 2147483648L, 4294967295L, 1L << 32}) {
        long label = (k & 0xffffffffL) < n ? k & 0xffffffffL : 3;
        ends("14 of " + n + " by " + k, Kit.simple(INT, INT, code), new long[] {k}, 2, 0, label == 3 ? 3 : 4, 10 + label);
      }
    }
    byte[] most = Kit.bytes(2, 64, 2, 64, 32, 0, 14, 200L, Kit.times(199, 0), 1, 0, 11, 65, 10, 15, 11, 65, 11);
    for (int k = 197; k < 203; k++) ends("14 of 200 by " + k, Kit.simple(INT, INT, most), new long[] {k}, 2, 0, k == 199 ? 3 : 4, k == 199 ? 11 : 10);
  }

  /** 27, 28 give the first of the two when the last one is not 0, otherwise the second. */
  private static void choices() {
    for (int c = 0; c < 2; c++) {
      gives("27 of 64 bits", LONG, Kit.bytes(66, 4, 66, 5, 65, c, 27), 4, 5 - c);
      gives("28 of 64 bits", LONG, Kit.bytes(66, 4, 66, 5, 65, c, 28, 1, 126), 4, 5 - c);
      gives("28 of references", new int[] {112}, Kit.bytes(210, 0, 208, 112, 65, c, 28, 1, 112), 4, c == 1 ? 0 : -1);
      gives("27 above another", INT, Kit.bytes(65, 50, 65, 4, 65, 5, 65, c, 27, 106), 6, 55 - c);
    }
  }

  /** Addresses, offsets, sizes are 32 bits without sign, sums of them without bounds: 5 beyond the end of the memory. */
  private static void addresses() {
    for (int op = 40; op <= 62; op++) {
      int n = Reference.bytesOf(op);
      byte[] value = op < 54 ? Kit.bytes() : Kit.constant(Reference.accessKind(op), 1);
      byte[] end = op < 54 ? Kit.bytes(26) : Kit.bytes();
      int steps = op < 54 ? 2 : 3;
      long[][] right = {{65536 - n, 0}, {0, 65536 - n}, {65535 - n, 1}, {1, 65535 - n}, {30000, 35536 - n}, {0, 0}};
      long[][] wrong = {{65537 - n, 0}, {0, 65537 - n}, {65536 - n, 1}, {1, 65536 - n}, {65536, 0}, {0, 65536}, {-1, 0}, {0, 4294967295L}, {-1, 1},
        {1, 4294967295L}, {-1, 4294967295L}, {0x80000000L, 0x80000000L}, {0x80000000L, 0}, {-n, n}};
      for (long[] r : right) gives(op + " at " + r[0] + " + " + r[1], NO, Kit.bytes(i32(r[0]), value, op, 0, r[1], end), 3);
      for (long[] w : wrong) traps(op + " at " + w[0] + " + " + w[1], Kit.bytes(i32(w[0]), value, op, 0, w[1], end), 5, steps);
    }
    byte[] none = Kit.module(Kit.section(1, 1, Kit.type(INT, INT)), Kit.section(3, 1, 0), Kit.section(5, 1, 0, 0), Kit.section(7, 1, "f", 0, 0),
      Kit.section(10, 1, Kit.body(32, 0, 45, 0, 0)));
    ends("a memory of nothing", none, new long[] {0}, 3, 5, 2);
    byte[] grown = Kit.bytes(65, 1, 64, 0, 26, i32(131068), i32(-2), 54, 0, 0, i32(131068), 40, 0, 0);
    gives("the end is where it is now", INT, grown, 8, 0xfffffffeL);
    traps("and no further", Kit.bytes(65, 1, 64, 0, 26, i32(131069), 40, 0, 0, 26), 5, 5);
    gives("across two pages", LONG, Kit.bytes(65, 1, 64, 0, 26, i32(65533), Kit.constant(126, 0x1122334455667788L), 55, 0, 0, i32(65533), 41, 0, 0), 8,
      0x1122334455667788L);
  }

  /** A store that TRAPS stores nothing. */
  private static void storesBeyond() {
    for (int op = 54; op <= 62; op++) {
      int n = Reference.bytesOf(op);
      for (int tier = 0; tier < 2; tier++) {
        for (int over = 1; over <= n; over++) {
          ModuleEngine e = Kit.engine(Kit.simple(NO, NO, i32(65536 - n + over), Kit.constant(Reference.accessKind(op), -1), op, 0, 0));
          e.tier(tier);
          Kit.run(e, 0, 0);
          Kit.due(op + " beyond", e.state(1), 5);
          for (int i = 65527; i < 65536; i++) Kit.due(op + " beyond: byte " + i, e.memory(0, 1, i), 0);
        }
      }
    }
  }

  /** The even ones of 44 .. 53 with sign, the others with zeros above; 58, 60 the lowest 8, 59, 61 16, 62 32. */
  private static void extensions() {
    for (int op = 40; op <= 53; op++) {
      int n = Reference.bytesOf(op);
      int kind = Reference.accessKind(op);
      boolean sign = op >= 44 && op % 2 == 0;
      for (long high : new long[] {0x7f, 0x80, 0xff}) {
        long low = high << 8 * n - 8 | (n > 1 ? 0x21 : 0);
        long want = sign ? low << 64 - 8 * n >> 64 - 8 * n : low;
        if (kind == 127 || kind == 125) want &= 0xffffffffL;
        gives(op + " of " + low, new int[] {kind}, Kit.bytes(65, 0, Kit.constant(126, low), 55, 0, 0, 65, 0, op, 0, 0), 5, want);
      }
    }
  }

  /** 35 puts the global, 36 takes a value and sets it. */
  private static void globals() {
    int[] kinds = {127, 126, 125, 124, 112, 111};
    for (int i = 0; i < 6; i++) {
      byte[] first = i < 4 ? Kit.constant(kinds[i], 5) : Kit.bytes(208, kinds[i]);
      byte[] m = Kit.module(Kit.section(1, 1, Kit.type(new int[] {kinds[i]}, new int[] {kinds[i], kinds[i]})), Kit.section(3, 1, 0),
        Kit.section(6, 2, 127, 1, 65, 1, 11, kinds[i], 1, first, 11), Kit.section(7, 2, "f", 0, 0, "g", 3, 1), Kit.section(10, 1, Kit.body(35, 1, 32, 0, 36, 1, 35, 1)));
      long before = i < 4 ? 5 : -1;
      for (long v : new long[] {0, -1, 0x7fffffffL, 0x80000000L}) {
        if (i >= 4 && v > 0) continue;
        long told = i == 0 || i == 2 ? v & 0xffffffffL : v;
        ends("35, 36 of " + kinds[i], m, new long[] {v}, 2, 0, 4, before, told);
        ModuleEngine e = Kit.engine(m);
        Kit.run(e, 0, 0, v);
        Kit.due("the global", e.global(0, 1), told);
      }
    }
  }

  /** 208 puts none, 209 1 for none, else 0, 210 the function's number in the store. */
  private static void references() {
    gives("209 of none", INT, Kit.bytes(65, 50, 208, 112, 209, 106), 4, 51);
    gives("209 of a function", INT, Kit.bytes(65, 50, 210, 0, 209, 106), 4, 50);
    gives("209 of none from outside", INT, Kit.bytes(65, 50, 208, 111, 209, 106), 4, 51);
    byte[] outside = Kit.simple(new int[] {111}, INT, 65, 50, 32, 0, 209, 106);
    for (long v : new long[] {0, 1, 2147483647}) ends("209 of " + v, outside, new long[] {v}, 2, 0, 4, 50);
    ends("209 of none that was given", outside, new long[] {-1}, 2, 0, 4, 51);
    gives("208", new int[] {112}, Kit.bytes(208, 112), 1, -1);
    gives("210", new int[] {112}, Kit.bytes(210, 0), 1, 0);
    ModuleEngine e = Kit.engine(Kit.simple(NO, new int[] {112}, 210, 0));
    e.make(0);
    Kit.run(e, 1, 0);
    Kit.due("210 of the second instance", e.value(0), 1);
  }

  /** A table of 112 with 4 entries and one of 111 with 3; the function is in the first at 2. */
  private static byte[] tables(int[] params, int[] results, Object... code) {
    return Kit.module(Kit.section(1, 2, Kit.type(params, results), Kit.type(NO, NO)), Kit.section(3, 2, 0, 1), Kit.section(4, 3, 112, 0, 4, 111, 0, 3, 112, 0, 2),
      Kit.section(7, 4, "f", 0, 0, "t", 1, 0, "u", 1, 1, "v", 1, 2), Kit.section(9, 3, 0, 65, 2, 11, 1, 1, 1, 0, 2, 1, 0, 5, 111, 1, 208, 111, 11),
      Kit.section(10, 2, Kit.body(code), Kit.body()));
  }

  /** 37 an entry of the table, 38 sets it: 6 beyond its end. */
  private static void tableEntries() {
    byte[] get = tables(INT, new int[] {112}, 32, 0, 37, 0);
    byte[] set = tables(INT, new int[] {112}, 32, 0, 210, 0, 38, 0, 32, 0, 37, 0);
    byte[] other = tables(new int[] {127, 111}, new int[] {111}, 32, 0, 32, 1, 38, 1, 32, 0, 37, 1);
    for (long i = 0; i < 4; i++) ends("37 of " + i, get, new long[] {i}, 2, 0, 2, i == 2 ? 1 : -1);
    for (long i = 0; i < 4; i++) ends("38 of " + i, set, new long[] {i}, 2, 0, 5, 0);
    for (long i = 0; i < 3; i++) ends("38 of the other " + i, other, new long[] {i, 2147483647}, 2, 0, 5, 2147483647);
    for (long i : new long[] {4, 5, 1023, 1024, 2147483647, 2147483648L, -1}) {
      ends("37 of " + i, get, new long[] {i}, 3, 6, 2);
      ends("38 of " + i, set, new long[] {i}, 3, 6, 3);
      ends("38 of the other " + i, other, new long[] {i, 5}, 3, 6, 3);
    }
    ends("38 of the other 3", other, new long[] {3, 5}, 3, 6, 3);
  }

  /** 7 17 beyond its table's end, 8 at none, 9 at a function whose type has other rows; it has the type first, then the table. */
  private static void callsByTable() {
    byte[] m = Kit.module(Kit.section(1, 5, Kit.type(INT, INT), Kit.type(NO, INT), Kit.type(LONG, INT), Kit.type(NO, LONG), Kit.type(NO, INT)),
      Kit.section(3, 4, 0, 1, 2, 3), Kit.section(4, 3, 112, 0, 9, 112, 0, 5, 111, 0, 9), Kit.section(7, 1, "f", 0, 0),
      Kit.section(9, 1, 2, 1, 65, 0, 11, 0, 4, 1, 0, 2, 3),
      Kit.section(10, 4, Kit.body(32, 0, 17, 4, 1), Kit.body(65, 42), Kit.body(65, 1), Kit.body(66, 1)));
    ends("17 of the same rows", m, new long[] {0}, 2, 0, 3, 42);
    for (int i = 1; i < 4; i++) ends("17 of other rows, " + i, m, new long[] {i}, 3, 9, 2);
    ends("17 of none", m, new long[] {4}, 3, 8, 2);
    for (long i : new long[] {5, 6, 8, 9, 1024, 2147483647, 2147483648L, -1}) ends("17 of " + i, m, new long[] {i}, 3, 7, 2);
  }

  /** 63, 252 with 16 put how many pages, entries there are now. */
  private static void sizesNow() {
    gives("63 ahead and behind", new int[] {127, 127, 127}, Kit.bytes(63, 0, 65, 2, 64, 0, 63, 0), 4, 1, 1, 3);
    gives("252 16 ahead and behind", new int[] {127, 127, 127}, Kit.bytes(252, 16, 0, 208, 112, 65, 3, 252, 15, 0, 252, 16, 0), 5, 4, 4, 7);
    ends("of each table its own", tables(NO, new int[] {127, 127, 127}, 252, 16, 0, 252, 16, 1, 252, 16, 2), new long[0], 2, 0, 3, 4, 3, 2);
  }

  private static byte[] growing(byte[] limits) {
    return Kit.module(Kit.section(1, 1, Kit.type(INT, INT)), Kit.section(3, 1, 0), Kit.section(5, 1, limits), Kit.section(7, 2, "f", 0, 0, "m", 2, 0),
      Kit.section(10, 1, Kit.body(32, 0, 64, 0)));
  }

  /** 64 puts the size before, new pages 0; or -1 (32 bits), when it would be above the greatest or beyond what the engine has left. */
  private static void growMemory() {
    Object[][] rows = {{0, 1}, {1, 1, 1}, {1, 1, 2}, {1, 1, 4}, {1, 1, 8}, {1, 1, 9}, {1, 1, 65536L}, {0, 0}, {1, 0, 0}, {1, 0, 1}, {0, 8}, {1, 8, 8}};
    for (Object[] r : rows) {
      int least = (int) r[1];
      long greatest = r.length == 2 ? 65536 : r[2] instanceof Long l ? l : (int) r[2];
      for (long more : new long[] {0, 1, 2, 3, 6, 7, 8, 9, 65535, 65536, 2147483647, 2147483648L, 4294967295L}) {
        boolean fits = least + more <= greatest && least + more <= 8;
        for (int tier = 0; tier < 2; tier++) {
          ModuleEngine e = Kit.engine(growing(Kit.bytes(r)));
          e.tier(tier);
          Kit.run(e, 0, 0, more);
          String what = "from " + least + " by " + more + " up to " + greatest;
          Kit.due(what, e.value(0), fits ? least : 0xffffffffL);
          Kit.due(what + ": pages", e.export(0, 1, 4), fits ? least + more : least);
          Kit.due(what + ": pages left", e.state(8), 8 - (fits ? least + more : least));
          long end = (fits ? least + more : least) * 65536;
          Kit.due(what + ": the last byte", e.memory(0, 1, (int) end - 1), end == 0 ? -1 : 0);
          Kit.due(what + ": behind it", e.memory(0, 1, (int) end), -1);
        }
      }
    }
  }

  private static byte[] growingTable(byte[] limits) {
    return Kit.module(Kit.section(1, 1, Kit.type(new int[] {111, 127}, INT)), Kit.section(3, 1, 0), Kit.section(4, 1, 111, limits),
      Kit.section(7, 2, "f", 0, 0, "t", 1, 0), Kit.section(10, 1, Kit.body(32, 0, 32, 1, 252, 15, 0)));
  }

  /** And 252 with 15: new entries the reference taken. */
  private static void growTable() {
    Object[][] rows = {{0, 3}, {1, 3, 3}, {1, 3, 4}, {1, 3, 9}, {1, 3, 1024L}, {1, 3, 1025L}, {1, 3, 4294967295L}, {0, 0}, {1, 0, 0}, {1, 0, 1}, {0, 1024L}};
    for (Object[] r : rows) {
      long least = r[1] instanceof Long l ? l : (int) r[1];
      long greatest = r.length == 2 ? 4294967295L : r[2] instanceof Long l ? l : (int) r[2];
      for (long more : new long[] {0, 1, 2, 6, 7, 1020, 1021, 1022, 1024, 1025, 2147483647, 2147483648L, 4294967292L, 4294967293L, 4294967295L}) {
        boolean fits = least + more <= greatest && least + more <= 1024;
        for (int tier = 0; tier < 2; tier++) {
          ModuleEngine e = Kit.engine(growingTable(Kit.bytes(r)));
          e.tier(tier);
          Kit.run(e, 0, 0, 77, more);
          String what = "a table from " + least + " by " + more + " up to " + greatest;
          int size = (int) (fits ? least + more : least);
          Kit.due(what, e.value(0), fits ? least : 0xffffffffL);
          Kit.due(what + ": entries", e.export(0, 1, 4), size);
          Kit.due(what + ": entries left", e.state(9), 1024 - size);
          if (least > 0) Kit.due(what + ": the last old one", e.table(0, 1, (int) least - 1), -1);
          if (size > least) Kit.due(what + ": the first new one", e.table(0, 1, (int) least), 77);
          if (size > least) Kit.due(what + ": the last new one", e.table(0, 1, size - 1), 77);
          Kit.due(what + ": behind it", e.table(0, 1, size), -2);
        }
      }
    }
  }

  /** Beyond what the engine has left: that is for all instances together. */
  private static void growthShared() {
    for (int tier = 0; tier < 2; tier++) {
      ModuleEngine e = Kit.engine(growing(Kit.bytes(0, 1)));
      e.tier(tier);
      Kit.due("a second one", e.make(0), 1);
      Kit.run(e, 0, 0, 4);
      Kit.due("the first by 4", e.value(0), 1);
      e.poke(0, 1, 5 * 65536 - 1, 99);
      Kit.run(e, 1, 0, 3);
      Kit.due("the second by 3", e.value(0), 0xffffffffL);
      Kit.run(e, 1, 0, 2);
      Kit.due("the second by 2", e.value(0), 1);
      Kit.due("its pages are its own", e.memory(1, 1, 3 * 65536 - 1), 0);
      Kit.run(e, 0, 0, 1);
      Kit.due("the first by 1", e.value(0), 0xffffffffL);
      Kit.run(e, 0, 0, 0);
      Kit.due("the first by 0", e.value(0), 5);
      Kit.due("its byte", e.memory(0, 1, 5 * 65536 - 1), 99);
      e = Kit.engine(growingTable(Kit.bytes(0, 10)));
      e.tier(tier);
      e.make(0);
      Kit.run(e, 0, 0, 1, 1000);
      Kit.due("the first table by 1000", e.value(0), 10);
      Kit.run(e, 1, 0, 1, 5);
      Kit.due("the second by 5", e.value(0), 0xffffffffL);
      Kit.run(e, 1, 0, 1, 4);
      Kit.due("the second by 4", e.value(0), 10);
      Kit.run(e, 0, 0, 1, 1);
      Kit.due("the first by 1", e.value(0), 0xffffffffL);
      Kit.run(e, 0, 0, 1, 0);
      Kit.due("the first by 0", e.value(0), 1010);
    }
  }

  /** A memory of a page, its first bytes 7 8 9; a passive data of 4 bytes. */
  private static byte[] memory(Object... code) {
    return Kit.module(Kit.section(1, 1, Kit.type(new int[] {127, 127, 127}, NO)), Kit.section(3, 1, 0), Kit.section(5, 1, 0, 1),
      Kit.section(7, 2, "f", 0, 0, "m", 2, 0), Kit.section(12, 2), Kit.section(10, 1, Kit.body(32, 0, 32, 1, 32, 2, Kit.bytes(code))),
      Kit.section(11, 2, 0, 65, 0, 11, 3, 7, 8, 9, 1, 4, 1, 2, 3, 4));
  }

  private static final long[] PLACES = {0, 1, 2, 3, 4, 5, 65531, 65532, 65533, 65535, 65536, 65537, 2147483647, 2147483648L, 4294967292L, 4294967295L};
  private static final long[] COUNTS = {0, 1, 3, 4, 5, 65535, 65536, 65537, 2147483648L, 4294967295L};

  /** TRAP when any of the stretch is beyond an end (also one of 0 that begins beyond it); nothing is moved then. */
  private static void stretchesOfMemory() {
    int[][] codes = {{252, 8, 1, 0}, {252, 10, 0, 0}, {252, 11, 0}};
    for (int[] code : codes) {
      ModuleEngine[] both = new ModuleEngine[2];
      for (long to : PLACES) {
        for (long from : PLACES) {
          for (long n : COUNTS) {
            long end = code[1] == 8 ? 4 : code[1] == 10 ? 65536 : Long.MAX_VALUE;
            boolean right = to + n <= 65536 && from + n <= end;
            boolean near = right || to + n <= 65540 || from + n <= 65540;
            if (!near && n > 5 && to > 5) continue;
            for (int tier = 0; tier < 2; tier++) {
              if (both[tier] == null || right) both[tier] = Kit.engine(memory(code));
              ModuleEngine e = both[tier];
              e.tier(tier);
              Kit.run(e, 0, 0, to, from, n);
              String what = "252 " + code[1] + " to " + to + " from " + from + ", " + n;
              Kit.due(what + ": state", e.state(0), right ? 2 : 3);
              if (!right) Kit.due(what + ": trap", e.state(1), 5);
              for (int i : new int[] {0, 1, 2, 3, 4, 65531, 65532, 65535}) Kit.due(what + ": byte " + i, e.memory(0, 1, i), byteAt(code[1], right, to, from, n, i));
              if (right) both[tier] = null;
            }
          }
        }
      }
    }
  }

  private static long byteAt(int op, boolean right, long to, long from, long n, long i) {
    if (!right || i < to || i >= to + n) return i < 3 ? 7 + i : 0;
    long source = from + i - to;
    return op == 8 ? 1 + source : op == 11 ? from & 255 : source < 3 ? 7 + source : 0;
  }

  /** The same of tables: 6, or of the segment that is copied from. */
  private static void stretchesOfTables() {
    long[] places = {0, 1, 2, 3, 4, 5, 2147483648L, 4294967295L};
    int[][] codes = {{252, 12, 1, 0}, {252, 12, 1, 2}, {252, 14, 0, 0}, {252, 14, 0, 2}, {252, 14, 2, 0}};
    int[] targets = {4, 2, 4, 4, 2};
    int[] sources = {2, 2, 4, 2, 4};
    for (int c = 0; c < codes.length; c++) {
      for (long to : places) {
        for (long from : places) {
          for (long n : new long[] {0, 1, 2, 3, 4, 5, 4294967295L}) {
            boolean right = to + n <= targets[c] && from + n <= sources[c];
            byte[] m = tables(new int[] {127, 127, 127}, NO, 32, 0, 32, 1, 32, 2, codes[c]);
            for (int tier = 0; tier < 2; tier++) {
              ModuleEngine e = Kit.engine(m);
              e.tier(tier);
              Kit.run(e, 0, 0, to, from, n);
              String what = "252 " + codes[c][1] + " " + codes[c][3] + " to " + to + " from " + from + ", " + n;
              Kit.due(what + ": state", e.state(0), right ? 2 : 3);
              Kit.due(what + ": trap", e.state(1), right ? 0 : 6);
              if (c == 2 || c == 3) {
                int[] old = c == 2 ? new int[] {-1, -1, 1, -1} : new int[] {-1, -1};
                for (int i = 0; i < 4; i++) {
                  long want = right && i >= to && i < to + n ? old[(int) (from + i - to)] : i == 2 ? 1 : -1;
                  Kit.due(what + ": entry " + i, e.table(0, 1, i), want);
                }
              } else if (c == 0 && right) {
                for (int i = 0; i < n; i++) Kit.due(what + ": entry " + i, e.table(0, 1, (int) to + i), from + i == 0 ? 1 : 0);
              } else if (c == 1 && right) {
                for (int i = 0; i < n; i++) Kit.due(what + ": entry " + i, e.table(0, 3, (int) to + i), from + i == 0 ? 1 : 0);
              }
            }
          }
        }
      }
    }
    byte[] fill = tables(new int[] {127, 111, 127}, NO, 32, 0, 32, 1, 32, 2, 252, 17, 1);
    for (long to : places) {
      for (long n : new long[] {0, 1, 2, 3, 4, 4294967295L}) {
        boolean right = to + n <= 3;
        ends("252 17 at " + to + ", " + n, fill, new long[] {to, 66, n}, right ? 2 : 3, right ? 0 : 6, 4);
        ModuleEngine e = Kit.engine(fill);
        Kit.run(e, 0, 0, to, 66, n);
        for (int i = 0; i < 3; i++) Kit.due("252 17: entry " + i, e.table(0, 2, i), right && i >= to && i < to + n ? 66 : -1);
      }
    }
  }

  /** Otherwise it is moved as if all were taken first: in one page, and across pages, upwards and downwards. */
  private static void movedAsIfTaken() {
    byte[] m = Kit.module(Kit.section(1, 1, Kit.type(new int[] {127, 127, 127}, NO)), Kit.section(3, 1, 0), Kit.section(5, 1, 0, 3),
      Kit.section(7, 2, "f", 0, 0, "m", 2, 0), Kit.section(10, 1, Kit.body(32, 0, 32, 1, 32, 2, 252, 10, 0, 0)));
    int[][] rows = {{0, 0, 9}, {1, 0, 9}, {0, 1, 9}, {65530, 65534, 9}, {65534, 65530, 9}, {65535, 65536, 70000}, {65536, 65535, 70000}, {100, 60000, 70000},
      {60000, 100, 70000}, {0, 65536, 65536}, {65536, 0, 65536}, {0, 65536, 131072}, {65536, 0, 131072}, {1, 0, 196607}, {0, 1, 196607}, {0, 0, 196608},
      {65537, 0, 65536}, {65535, 0, 65537}, {65536, 1, 65536}, {0, 65535, 65537}, {131071, 65535, 65536}, {65535, 131071, 65536}};
    int[] marks = {0, 1, 2, 99, 100, 101, 65529, 65530, 65533, 65534, 65535, 65536, 65537, 65538, 131070, 131071, 131072, 131073, 196606, 196607};
    for (int tier = 0; tier < 2; tier++) {
      for (int[] r : rows) {
        ModuleEngine e = Kit.engine(m);
        e.tier(tier);
        byte[] model = new byte[3 * 65536];
        for (int i = 0; i < marks.length; i++) {
          e.poke(0, 1, marks[i], i + 1);
          model[marks[i]] = (byte) (i + 1);
        }
        System.arraycopy(model, r[1], model, r[0], r[2]);
        Kit.run(e, 0, 0, r[0], r[1], r[2]);
        Kit.due("moved", e.state(0), 2);
        for (int i = 0; i < model.length; i += i % 65536 < 110 || i % 65536 > 65500 ? 1 : 7)
          Kit.due("to " + r[0] + " from " + r[1] + ", " + r[2] + ": byte " + i, e.memory(0, 1, i), model[i] & 255);
        for (int mark : marks) {
          int at = mark - r[1] + r[0];
          if (at >= 0 && at < model.length) Kit.due("the marked byte " + mark, e.memory(0, 1, at), model[at] & 255);
        }
      }
      byte[] fill = Kit.module(Kit.section(1, 1, Kit.type(new int[] {127, 127, 127}, NO)), Kit.section(3, 1, 0), Kit.section(5, 1, 0, 3),
        Kit.section(7, 2, "f", 0, 0, "m", 2, 0), Kit.section(10, 1, Kit.body(32, 0, 32, 1, 32, 2, 252, 11, 0)));
      int[][] fills = {{65535, 1}, {65535, 2}, {65536, 65536}, {1, 196606}, {0, 196608}, {65000, 70000}};
      for (int[] r : fills) {
        ModuleEngine e = Kit.engine(fill);
        e.tier(tier);
        Kit.run(e, 0, 0, r[0], 0x1fe, r[1]);
        for (int i : new int[] {0, 1, 64999, 65000, 65534, 65535, 65536, 65537, 131071, 131072, 134999, 135000, 196606, 196607})
          Kit.due("filled: byte " + i, e.memory(0, 1, i), i >= r[0] && i < r[0] + r[1] ? 254 : 0);
      }
    }
  }

  /** 252 with 9, 13: the segment has nothing any more; none of it can still be copied from its beginning. */
  private static void droppedSegments() {
    int[][] rows = {{0, 0, 0}, {0, 0, 1}, {0, 1, 0}, {65536, 0, 0}, {65537, 0, 0}};
    for (int[] r : rows) {
      boolean right = r[0] <= 65536 && r[1] + r[2] == 0;
      byte[] m = memory(26, 26, 26, 252, 9, 1, 252, 9, 1, 32, 0, 32, 1, 32, 2, 252, 8, 1, 0);
      ends("8 behind 9", m, new long[] {r[0], r[1], r[2]}, right ? 2 : 3, right ? 0 : 5, 12);
      boolean fits = r[0] <= 4 && r[1] + r[2] == 0;
      byte[] t = tables(new int[] {127, 127, 127}, NO, 252, 13, 1, 252, 13, 1, 32, 0, 32, 1, 32, 2, 252, 12, 1, 0);
      ends("12 behind 13", t, new long[] {r[0], r[1], r[2]}, fits ? 2 : 3, fits ? 0 : 6, 6);
    }
    ends("the others stay", tables(NO, NO, 252, 13, 2, three(0, 0, 2), 252, 12, 1, 0), new long[0], 2, 0, 5);
    ModuleEngine e = Kit.engine(tables(INT, NO, 32, 0, 4, 64, 252, 13, 1, 11, three(0, 0, 2), 252, 12, 1, 0));
    e.make(0);
    Kit.run(e, 0, 0, 1);
    Kit.due("dropped in the first instance", e.state(1), 6);
    Kit.run(e, 1, 0, 0);
    Kit.due("not in the second", e.state(0), 2);
    Kit.run(e, 0, 0, 0);
    Kit.due("for good", e.state(0), 3);
  }

  /** TRAPS 1 instruction 0; 2, 3, 4: those of Part III. */
  private static void trapsOfOperators() {
    traps("0", Kit.bytes(0), 1, 1);
    for (int op : new int[] {109, 110, 111, 112}) traps(op + " by 0", Kit.bytes(65, 1, 65, 0, op, 26), 2, 3);
    for (int op : new int[] {127, 128, 129, 130}) traps(op + " by 0", Kit.bytes(66, 1, 66, 0, op, 26), 2, 3);
    traps("109 that is not there", Kit.bytes(i32(0x80000000L), 65, 127, 109, 26), 3, 3);
    traps("127 that is not there", Kit.bytes(66, Kit.signed(Long.MIN_VALUE), 66, 127, 127, 26), 3, 3);
    gives("111 of the same", INT, Kit.bytes(i32(0x80000000L), 65, 127, 111), 3, 0);
    gives("129 of the same", LONG, Kit.bytes(66, Kit.signed(Long.MIN_VALUE), 66, 127, 129), 3, 0);
    gives("110 of the same", INT, Kit.bytes(i32(0x80000000L), 65, 127, 110), 3, 0);
    int[] ops = {168, 169, 170, 171, 174, 175, 176, 177};
    for (int op : ops) {
      boolean wide = op == 170 || op == 171 || op == 176 || op == 177;
      byte[] none = wide ? Kit.constant(124, 0x7ff8000000000000L) : Kit.constant(125, 0x7fc00000L);
      byte[] infinite = wide ? Kit.constant(124, 0xfff0000000000000L) : Kit.constant(125, 0x7f800000L);
      traps(op + " of NONE", Kit.bytes(none, op, 26), 4, 2);
      traps(op + " of INFINITE", Kit.bytes(infinite, op, 26), 3, 2);
      int k = op < 174 ? op - 168 : op - 170;
      gives("252 " + k + " of NONE", NO, Kit.bytes(none, 252, k, 26), 3);
      gives("252 " + k + " of INFINITE", NO, Kit.bytes(infinite, 252, k, 26), 3);
    }
  }

  /** From the n-th one on (that one, too), n being what tier() says then (0: never). */
  private static void changingOver() {
    byte[] m = Kit.simple(INT, INT, 32, 0, 65, 1, 106);
    for (int n = 1; n < 6; n++) {
      ModuleEngine e = Kit.engine(m);
      e.tier(n);
      for (int call = 1; call < 8; call++) {
        e.argument(call);
        e.call(0, 0);
        Kit.due("tier " + n + ", frame " + call, e.state(11), call >= n ? 1 : 0);
        e.run(9);
        Kit.due("its value", e.value(0), call + 1);
      }
    }
    ModuleEngine e = Kit.engine(m);
    for (int call = 1; call < 4; call++) Kit.run(e, 0, 0, call);
    Kit.due("never", e.state(11), 0);
    e.tier(5);
    Kit.run(e, 0, 0, 1);
    Kit.due("the fourth, all counted", e.state(11), 0);
    Kit.run(e, 0, 0, 1);
    Kit.due("the fifth", e.state(11), 1);
    e.tier(0);
    Kit.run(e, 0, 0, 1);
    Kit.due("for good", e.state(11), 1);
    e = Kit.engine(m);
    for (int call = 1; call < 4; call++) Kit.run(e, 0, 0, call);
    e.tier(2);
    Kit.due("not before the next frame", e.state(11), 0);
    Kit.run(e, 0, 0, 1);
    Kit.due("which is beyond the n-th", e.state(11), 1);
    e = Kit.engine(m);
    e.tier(Integer.MAX_VALUE);
    Kit.run(e, 0, 0, 1);
    Kit.due("the greatest", e.state(11), 0);
  }

  /** A function of the store is counted when a frame is made for it (by call() and make(), too). */
  private static void changingOverPerFunction() {
    byte[] m = Kit.module(Kit.section(1, 1, Kit.type(NO, NO)), Kit.section(3, 3, 0, 0, 0), Kit.section(4, 1, 112, 0, 1), Kit.section(7, 2, "a", 0, 0, "b", 0, 1),
      Kit.section(8, 2), Kit.section(9, 1, 0, 65, 0, 11, 1, 1), Kit.section(10, 3, Kit.body(16, 1, 65, 0, 17, 0, 0), Kit.body(1), Kit.body(1)));
    ModuleEngine e = new ModuleEngine();
    Kit.load(e, m);
    e.tier(1);
    e.make(0);
    Kit.due("by make()", e.state(11), 1);
    e.run(9);
    e.tier(2);
    Kit.run(e, 0, 0);
    Kit.due("by 16 and 17", e.state(11), 2);
    e.make(0);
    e.run(9);
    Kit.due("another instance has others", e.state(11), 2);
    e.tier(1);
    Kit.run(e, 1, 1);
    Kit.due("of which this is one", e.state(11), 3);
    Kit.run(e, 0, 0);
    Kit.due("and the first of the first", e.state(11), 4);
    for (int n : new int[] {1000, 4094, 4095, 4096, 4097, 8000}) {
      byte[][] codes = {Kit.times(n, 1), Kit.bytes(Kit.times(n / 2, 65, 1), Kit.times(n / 2, 26)), Kit.times(n / 4, 65, 1, 4, 64, 1, 11, 1)};
      for (int c = 0; c < 3; c++) {
        if (c == 1 && n > 2000) continue;
        e = Kit.engine(Kit.simple(NO, NO, codes[c]));
        e.tier(1);
        e.call(0, 0);
        Kit.due("whether there is room for its code or not: " + n, e.state(11), 1);
        Kit.due("its steps", e.run(100000), c == 0 ? n : c == 1 ? n / 2 * 2 : n / 4 * 4);
        Kit.due("it has ended", e.state(0), 2);
      }
    }
  }

  /** Where no frame is made none is counted: by a call that EXHAUSTS, and for HOST's functions. */
  private static void changingOverUncounted() {
    for (int n = 199; n < 202; n++) {
      ModuleEngine e = Kit.engine(Kit.simple(NO, NO, 16, 0));
      e.tier(n);
      e.call(0, 0);
      e.run(1000);
      Kit.due("exhausted", e.state(0), 4);
      Kit.due("200 frames, tier " + n, e.state(11), n <= 200 ? 1 : 0);
    }
    byte[] m = Kit.module(Kit.section(1, 1, Kit.type(NO, NO)), Kit.section(2, 1, "", "", 0, 0), Kit.section(7, 1, "h", 0, 0));
    ModuleEngine e = new ModuleEngine();
    Kit.load(e, m);
    e.tier(1);
    e.offer(-1, 0);
    e.make(0);
    for (int i = 0; i < 3; i++) {
      e.call(0, 0);
      e.answer();
    }
    Kit.due("HOST's", e.state(11), 0);
    e = Kit.engine(Kit.simple(INT, INT, 32, 0));
    e.tier(1);
    e.call(0, 0);
    Kit.due("a call that is refused", e.state(11), 0);
  }

  /** HOST is ASKED; its results come by answer(), and it goes on, or, without frames, has ended. */
  private static void asked() {
    int[] kinds = {127, 126, 125, 124, 112, 111};
    byte[] all = {};
    for (int i = 0; i < 6; i++) all = Kit.bytes(all, 32, i);
    byte[] m = Kit.module(Kit.section(1, 1, Kit.type(kinds, kinds)), Kit.section(2, 1, "", "", 0, 0), Kit.section(3, 1, 0), Kit.section(4, 1, 112, 0, 1),
      Kit.section(7, 2, "f", 0, 1, "h", 0, 0), Kit.section(9, 1, 0, 65, 0, 11, 1, 0), Kit.section(10, 1, Kit.body(all, 65, 0, 17, 0, 0)));
    long[] given = {-1, -1, -1, -1, 1, 2147483647};
    long[] told = {0xffffffffL, -1, 0xffffffffL, -1, 1, 2147483647};
    for (int tier = 0; tier < 2; tier++) {
      ModuleEngine e = new ModuleEngine();
      Kit.load(e, m);
      e.offer(-1, 63);
      e.make(0);
      e.tier(tier);
      for (int k = 0; k < 2; k++) {
        for (long g : given) e.argument(g);
        Kit.due("call", e.call(0, k), true);
        Kit.due("steps", e.run(100), k == 0 ? 8 : 0);
        Kit.due("asked", e.state(4), 63);
        Kit.due("frames", e.state(3), 1 - k);
        for (int i = 0; i < 6; i++) Kit.due("argument " + i, e.value(i), told[i]);
        Kit.due("no more", e.value(6), 0);
        for (int i = 0; i < 6; i++) e.argument(i < 4 ? given[i] - 1 : -1);
        Kit.due("answer", e.answer(), true);
        Kit.due("ended", e.state(0), 2);
        for (int i = 0; i < 6; i++) Kit.due("result " + i, e.value(i), i < 4 ? told[i] - 1 : -1);
        Kit.due("no more", e.value(6), 0);
        Kit.due("no steps by that", e.state(2), k == 0 ? 8 : 0);
      }
    }
  }

  /** With 16 parameters and 16 results, the most there may be. */
  private static void askedWithSixteen() {
    int[] kinds = {127, 126, 125, 124, 112, 111, 127, 126, 125, 124, 112, 111, 127, 126, 125, 124};
    byte[] all = {};
    for (int i = 0; i < 16; i++) all = Kit.bytes(all, 32, i);
    byte[] m = Kit.module(Kit.section(1, 1, Kit.type(kinds, kinds)), Kit.section(2, 1, "", "", 0, 0), Kit.section(3, 1, 0), Kit.section(7, 2, "f", 0, 1, "h", 0, 0),
      Kit.section(10, 1, Kit.body(all, 16, 0, 16, 0)));
    for (int tier = 0; tier < 2; tier++) {
      ModuleEngine e = new ModuleEngine();
      Kit.load(e, m);
      e.offer(-1, 63);
      e.make(0);
      e.tier(tier);
      for (int k = 0; k < 2; k++) {
        for (int i = 0; i < 16; i++) e.argument(kinds[i] < 124 ? i % 2 : 100 + i);
        Kit.due("call", e.call(0, k), true);
        e.run(100);
        for (int i = 0; i < 16; i++) Kit.due("argument " + i, e.value(i), kinds[i] < 124 ? i % 2 : 100 + i);
        Kit.due("no argument 16", e.value(16), 0);
        for (int turn = k; turn < 2; turn++) {
          for (int i = 0; i < 15; i++) Kit.due("none are left", e.argument(kinds[i] < 124 ? -1 : 200 + turn + i), i + 1);
          Kit.due("15 are too few", e.answer(), false);
          Kit.due("16", e.argument(215 + turn), 16);
          Kit.due("17", e.argument(1), -1);
          Kit.due("answered", e.answer(), true);
          e.run(100);
        }
        Kit.due("ended", e.state(0), 2);
        for (int i = 0; i < 16; i++) Kit.due("result " + i, e.value(i), kinds[i] < 124 ? -1 : 201 + i);
        Kit.due("no result 16", e.value(16), 0);
      }
    }
  }

  /** What lies in the dead is never done, whatever it branches to. */
  private static void deadCode() {
    byte[] inner = Kit.bytes(2, 64, 32, 0, 13, 0, 12, 1, 65, 7, 33, 0, 2, 64, 65, 1, 13, 1, 12, 2, 11, 3, 64, 12, 0, 11, 11, 32, 0);
    ends("a block in the dead, not come to", Kit.simple(INT, INT, 2, 64, inner, 33, 0, 11, 32, 0), new long[] {0}, 2, 0, 4, 0);
    ends("a block in the dead, gone round", Kit.simple(INT, INT, 2, 64, inner, 33, 0, 11, 32, 0), new long[] {6}, 2, 0, 5, 6);
    byte[] both = Kit.bytes(32, 0, 4, 64, 12, 0, 65, 1, 4, 64, 1, 5, 65, 9, 33, 0, 11, 5, 65, 8, 33, 0, 15, 2, 64, 65, 5, 33, 0, 11, 11, 65, 3, 33, 0);
    ends("a 4 in the dead, behind 12", Kit.simple(INT, NO, both), new long[] {1}, 2, 0, 5);
    ends("a block in the dead, behind 15", Kit.simple(INT, NO, both), new long[] {0}, 2, 0, 5);
    ends("operators in the dead, behind a block", Kit.simple(NO, NO, 15, 2, 64, 65, 1, 13, 0, 11, 106, 26), new long[0], 2, 0, 1);
    byte[] unknown = Kit.bytes(65, 7, 15, 2, 64, 65, 1, 13, 0, 11, 2, 0, 26, 65, 1, 11, 26);
    ends("a block in the dead whose parameter is not there", Kit.simple(INT, INT, unknown, 0), new long[] {3}, 2, 0, 2, 7);
    byte[] looped = Kit.bytes(2, 127, 65, 7, 12, 0, 3, 0, 32, 0, 13, 0, 26, 65, 1, 11, 27, 11);
    ends("a loop in the dead whose parameter is not there", Kit.simple(INT, INT, looped), new long[] {3}, 2, 0, 2, 7);
    byte[] fives = Kit.bytes(32, 0, 4, 64, 32, 0, 65, 1, 107, 4, 64, 65, 20, 33, 0, 5, 65, 30, 33, 0, 11, 32, 0, 65, 1, 106, 33, 0, 5, 65, 40, 33, 0, 11, 32, 0);
    ends("a 5 goes to its own end: the first part", Kit.simple(INT, INT, fives), new long[] {2}, 2, 0, 13, 21);
    ends("the second part", Kit.simple(INT, INT, fives), new long[] {1}, 2, 0, 13, 31);
    ends("the outer second part", Kit.simple(INT, INT, fives), new long[] {0}, 2, 0, 5, 40);
  }

  /** A local that is set behind what TRAPS, or grows, or asks, is set in a step of its own. */
  private static void ahead() {
    for (int set = 33; set <= 34; set++) {
      byte[] behind = set == 33 ? Kit.bytes(33, 0) : Kit.bytes(34, 0, 26);
      ends("a load that traps", Kit.simple(INT, NO, i32(-1), 40, 0, 0, behind), new long[] {1}, 3, 5, 2);
      ends("a quotient that traps", Kit.simple(INT, NO, 65, 1, 65, 0, 109, behind), new long[] {1}, 3, 2, 3);
      ends("a number that is not there", Kit.simple(INT, NO, Kit.constant(125, 0x7f800000L), 168, behind), new long[] {1}, 3, 3, 2);
      ends("a table's entry", Kit.simpleWith(new int[] {112}, NO, Kit.bytes(0), 65, 9, 37, 0, behind), new long[] {-1}, 3, 6, 2);
      ends("growth, which is seen at once", Kit.simple(INT, NO, 65, 1, 64, 0, behind, 1), new long[] {1}, 2, 0, set == 33 ? 4 : 5);
      ends("growth of a table", Kit.simple(INT, NO, 208, 112, 65, 1, 252, 15, 0, behind, 1), new long[] {1}, 2, 0, set == 33 ? 5 : 6);
      ends("sizes", Kit.simple(INT, NO, 63, 0, behind, 252, 16, 0, behind), new long[] {1}, 2, 0, set == 33 ? 4 : 6);
      ends("an operator", Kit.simple(INT, INT, 32, 0, 65, 5, 106, behind, 32, 0, 69, behind, 32, 0), new long[] {1}, 2, 0, set == 33 ? 8 : 10, 0);
      ends("a choice", Kit.simple(INT, INT, 65, 5, 65, 6, 32, 0, 27, behind, 32, 0), new long[] {1}, 2, 0, set == 33 ? 6 : 7, 5);
    }
    byte[] global = Kit.module(Kit.section(1, 1, Kit.type(INT, INT)), Kit.section(3, 1, 0), Kit.section(6, 1, 127, 1, 65, 9, 11), Kit.section(7, 2, "f", 0, 0, "g", 3, 0),
      Kit.section(10, 1, Kit.body(35, 0, 33, 0, 65, 4, 36, 0, 35, 0, 32, 0, 65, 2, 36, 0, 106)));
    ends("a global that is put, and then set", global, new long[] {1}, 2, 0, 9, 13);
  }

  /** What lies below stays as it is: constants and locals that wait while ways part and meet, and calls. */
  private static void operandsBelow() {
    byte[] parted = Kit.bytes(65, 1, 32, 0, 65, 3, 32, 0, 4, 64, 65, 50, 33, 0, 5, 1, 11, 107, 107, 32, 0, 107);
    ends("below a 4 that is taken", Kit.simple(INT, INT, parted), new long[] {7}, 2, 0, 11, (1 - (7 - 3) - 50) & 0xffffffffL);
    ends("below a 4 that is not", Kit.simple(INT, INT, parted), new long[] {0}, 2, 0, 10, (1 - (0 - 3)) & 0xffffffffL);
    byte[] branch = Kit.bytes(65, 1, 32, 0, 65, 3, 2, 64, 32, 0, 13, 0, 65, 50, 33, 0, 11, 107, 107, 32, 0, 107);
    ends("below a 13 that is taken", Kit.simple(INT, INT, branch), new long[] {7}, 2, 0, 9, (1 - (7 - 3) - 7) & 0xffffffffL);
    ends("below a 13 that is not", Kit.simple(INT, INT, branch), new long[] {0}, 2, 0, 11, (1 - (0 - 3) - 50) & 0xffffffffL);
    byte[] row = Kit.bytes(65, 1, 32, 0, 65, 3, 2, 64, 2, 64, 32, 0, 14, 1, 0, 1, 11, 65, 50, 33, 0, 11, 107, 107, 32, 0, 107);
    ends("below a 14, the first", Kit.simple(INT, INT, row), new long[] {0}, 2, 0, 11, (1 - (0 - 3) - 50) & 0xffffffffL);
    ends("below a 14, the last", Kit.simple(INT, INT, row), new long[] {7}, 2, 0, 9, (1 - (7 - 3) - 7) & 0xffffffffL);
    byte[] m = Kit.module(Kit.section(1, 2, Kit.type(INT, INT), Kit.type(new int[] {127, 127}, new int[] {127, 127})), Kit.section(3, 2, 0, 1),
      Kit.section(4, 1, 112, 0, 1), Kit.section(7, 1, "f", 0, 0), Kit.section(9, 1, 0, 65, 0, 11, 1, 1),
      Kit.section(10, 2, Kit.body(65, 60, 32, 0, 65, 1, 65, 2, 16, 1, 32, 0, 65, 0, 17, 1, 0, 107, 107, 107, 107), Kit.body(32, 1, 32, 0, 65, 9, 33, 0, 65, 8, 33, 1)));
    ends("below a call by 16 and one by 17", m, new long[] {5}, 2, 0, 24, (60 - (5 - (2 - (5 - 1)))) & 0xffffffffL);
  }

  private static byte[] counting(int by) { return Kit.body(32, 0, 4, 64, 3, 64, 32, 0, 65, by, 107, 34, 0, 13, 0, 11, 5, 65, 7, 33, 0, 11, 32, 0, 65, by, 106); }

  /** Functions one behind the other, each with branches of its own; some end in the dead, with operands. */
  private static void severalFunctions() {
    byte[] dead = Kit.body(65, 1, 32, 0, 32, 0, 4, 64, 65, 3, 15, 11, 0);
    for (int first = 0; first < 5; first++) {
      byte[] m = Kit.module(Kit.section(1, 1, Kit.type(INT, INT)), Kit.section(3, 5, Kit.times(5, 0)), Kit.section(7, 5, "a", 0, first, "b", 0, 0, "c", 0, 1, "d", 0, 2, "e", 0, 4),
        Kit.section(10, 5, dead, counting(1), dead, counting(2), Kit.body(32, 0, 16, 1, 32, 0, 16, 3, 106)));
      if (first == 1) ends("the second", m, new long[] {6}, 2, 0, 2 + 6 * 5 + 3, 1);
      else if (first == 3) ends("the fourth", m, new long[] {6}, 2, 0, 2 + 3 * 5 + 3, 2);
      else if (first == 4) ends("the fifth", m, new long[] {6}, 2, 0, 5 + 35 + 20, 3);
      else ends("the dead ones", m, new long[] {6}, 2, 0, 6, 3);
      for (int tier = 1; tier < 3; tier++) {
        ModuleEngine e = Kit.engine(m);
        e.tier(tier);
        for (int turn = 0; turn < 3; turn++) {
          Kit.run(e, 0, 1, 5);
          Kit.due("a dead one that is left", e.value(0), 3);
          Kit.run(e, 0, 1, 0);
          Kit.due("a dead one that traps", e.state(0), 3);
          Kit.run(e, 0, 2, 4);
          Kit.due("one behind it", e.value(0), 1);
          Kit.due("its steps", e.state(2), 2 + 4 * 5 + 3);
          Kit.run(e, 0, 3, 9);
          Kit.due("a dead one again", e.value(0), 3);
          Kit.run(e, 0, 4, 4);
          Kit.due("one that calls two", e.value(0), 3);
          Kit.due("no other types", e.state(12), 0);
        }
      }
    }
  }

  /** A function of another instance has that instance's constants, globals, memory and tables. */
  private static void acrossInstances() {
    byte[] callee = Kit.module(Kit.section(1, 1, Kit.type(INT, INT)), Kit.section(3, 1, 0), Kit.section(5, 1, 0, 1), Kit.section(6, 1, 127, 1, 65, 5, 11),
      Kit.section(7, 2, "f", 0, 0, "m", 2, 0), Kit.section(10, 1, Kit.body(65, 3, 32, 0, 58, 0, 0, 35, 0, 65, 1, 106, 36, 0, 35, 0, 65, 22, 106)));
    byte[] caller = Kit.module(Kit.section(1, 1, Kit.type(INT, INT)), Kit.section(2, 1, "", "", 0, 0), Kit.section(3, 1, 0), Kit.section(5, 1, 0, 1),
      Kit.section(6, 1, 127, 1, 65, 50, 11), Kit.section(7, 2, "f", 0, 1, "m", 2, 0),
      Kit.section(10, 1, Kit.body(1, 1, 1, 1, 1, 65, 11, 32, 0, 16, 0, 65, 33, 106, 107, 35, 0, 106, 65, 4, 65, 44, 58, 0, 0)));
    for (int tier = 0; tier < 3; tier++) {
      ModuleEngine e = new ModuleEngine();
      Kit.load(e, callee);
      Kit.load(e, caller);
      e.make(0);
      e.offer(0, 0);
      e.make(1);
      e.tier(tier);
      for (int turn = 0; turn < 4; turn++) {
        e.argument(9 + turn);
        e.call(1, 0);
        for (int i = 0; i < 100 && e.state(0) == 1; i++) e.run(1 + turn);
        Kit.due("value, tier " + tier, e.value(0), (11 - (6 + turn + 22 + 33) + 50) & 0xffffffffL);
        Kit.due("steps", e.state(2), 5 + 3 + 10 + 5 + 3);
        Kit.due("the callee's memory", e.memory(0, 1, 3), 9 + turn);
        Kit.due("not the caller's", e.memory(1, 1, 3), 0);
        Kit.due("the caller's memory", e.memory(1, 1, 4), 44);
        Kit.due("not the callee's", e.memory(0, 1, 4), 0);
      }
    }
  }

  /** Values of several types, one upon another, moved by branches and set to locals: never of other types than checked. */
  private static void mixedTypes() {
    byte[] locals = Kit.bytes(4, 1, 127, 1, 126, 1, 125, 1, 124);
    byte[] floats = Kit.bytes(67, 0, 0, 128, 63);
    byte[] moved = Kit.bytes(2, 126, floats, 65, 1, 66, 5, 12, 0, 11, 66, 1, 124, 33, 1, 2, 125, 65, 1, 66, 2, floats, 65, 1, 13, 0, 26, 26, 26, floats, 11, floats, 146, 33, 2,
      66, 3, floats, 65, 7, 33, 0, 33, 2, 33, 1, 66, 4, 65, 1, 34, 0, 26, 33, 1, 32, 1, 32, 0, 172, 124);
    ends("moved and set", Kit.simpleWith(NO, LONG, locals, moved), new long[0], 2, 0, 30, 5);
    byte[] loop = Kit.bytes(65, 3, 33, 0, 66, 1, 3, 64, 66, 7, 32, 0, 65, 1, 107, 34, 0, 13, 0, 26, 11, 26, 32, 0);
    ends("a loop that drops what lies above its height", Kit.simpleWith(NO, INT, locals, loop), new long[0], 2, 0, 3 + 3 * 6 + 3, 0);
    byte[] row = Kit.bytes(2, 126, 2, 126, floats, 65, 9, 66, 5, 65, 1, 14, 1, 0, 1, 11, 66, 1, 124, 11, 66, 2, 124);
    ends("14 over others", Kit.simpleWith(NO, LONG, locals, row), new long[0], 2, 0, 7, 7);
    int[] sixteen = new int[16];
    Arrays.fill(sixteen, 126);
    byte[] wide = Kit.simple(sixteen, new int[] {112, 111}, 208, 112, 208, 111);
    ends("16 parameters, and references as results", wide, new long[] {7, 7, 7, 7, 7, 7, 7, 7, 7, 7, 7, 7, 7, 7, 7, -9}, 2, 0, 2, -1, -1);
  }
}
