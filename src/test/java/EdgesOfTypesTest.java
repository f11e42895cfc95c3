import java.util.Arrays;

/**
 * Part II, sentence by sentence, where it names an edge: the most there may be of each thing, the last number of what is
 * there and the first of what is not, which fault comes ahead of which, and what a label has at its height.
 */
public final class EdgesOfTypesTest {
  private static final int[] NO = {};
  private static final int[] INT = {127};
  private static final byte[] PLAIN = Kit.type(NO, NO);

  public static void main(String[] args) {
    refusedBefore();
    limitOfRows();
    limitOfTypes();
    limitOfLocals();
    limitOfBranches();
    limitOfChoices();
    limitsAheadOfAll();
    typesOfFunctions();
    leastAndGreatest();
    pagesOfMemories();
    rangesInOrder();
    oneMemory();
    namesOfExports();
    numbersOfExports();
    exportsInOrder();
    starts();
    declared();
    functionsOfElements();
    tablesOfElements();
    memoriesOfData();
    itemsInOrder();
    constants();
    constantsInOrder();
    oneValue();
    labelsThere();
    localsThere();
    globalsThere();
    functionsThere();
    typesThere();
    tablesThere();
    segmentsThere();
    memoryThere();
    alignments();
    thirtyFirst();
    heights();
    deadLabels();
    twoHundredLabels();
    thousandOperands();
    takesThenBeginsThenPuts();
    thousandInTheDead();
    elseAndEnd();
    branches();
    rowsOfBranches();
    choices();
    callsByTable();
    parameters();
    bodiesInOrder();
    takenAndPut();
    lastNumbers();
    Kit.finish();
  }

  private static byte[] m(Object... sections) { return Kit.module(sections); }

  private static void refusedBefore() {
    ModuleEngine e = new ModuleEngine();
    Kit.load(e, Kit.REFUSED);
    Kit.due("the module that all are read behind", e.fault(0), 30);
  }

  /** One section with a row of so many; what else there must be stands around it. */
  private static void rows(String what, int id, byte[] head, byte[] one, byte[] tail, int right) {
    for (int n : new int[] {63, 64}) Kit.fault(n + " " + what, m(head, Kit.section(id, (long) n, Kit.times(n, one)), tail), right, 8 + head.length);
    for (int n : new int[] {65, 66, 128, 300})
      Kit.fault(n + " " + what, m(head, Kit.section(id, (long) n, Kit.times(n, one)), tail), 40, 8 + head.length);
  }

  /** 40 more than 64 types, imports, functions, tables, memories, globals, exports, elements or data. */
  private static void limitOfRows() {
    byte[] none = {};
    byte[] types = Kit.section(1, 1, PLAIN);
    rows("types", 1, none, PLAIN, none, 0);
    rows("imported functions", 2, types, Kit.bytes(0, 0, 0, 0), none, 0);
    rows("imported tables", 2, none, Kit.bytes(0, 0, 1, 112, 0, 0), none, 0);
    rows("imported memories", 2, none, Kit.bytes(0, 0, 2, 0, 0), none, 22);
    rows("imported globals", 2, none, Kit.bytes(0, 0, 3, 127, 0), none, 0);
    rows("tables", 4, none, Kit.bytes(112, 0, 0), none, 0);
    rows("memories", 5, none, Kit.bytes(0, 0), none, 22);
    rows("globals", 6, none, Kit.bytes(127, 0, 65, 0, 11), none, 0);
    rows("elements", 9, none, Kit.bytes(1, 0, 0), none, 0);
    rows("data", 11, none, Kit.bytes(1, 0), none, 0);
    for (int n : new int[] {64, 65}) {
      byte[] functions = Kit.section(3, (long) n, Kit.times(n, 0));
      byte[] bodies = Kit.section(10, (long) n, Kit.times(n, 2, 0, 11));
      Kit.fault(n + " functions", m(types, functions, bodies), n == 64 ? 0 : 40, 14);
      byte[] exports = {};
      for (int i = 0; i < n; i++) exports = Kit.bytes(exports, 1, 32 + i, 3, 0);
      byte[] global = Kit.section(6, 1, 127, 0, 65, 0, 11);
      Kit.fault(n + " exports", m(global, Kit.section(7, (long) n, exports)), n == 64 ? 0 : 40, 8 + global.length);
    }
    Kit.fault("what 12 says is not looked at", m(Kit.section(12, 65L), Kit.section(11, 65L, Kit.times(65, 1, 0))), 40, 11);
    byte[] imports = Kit.section(2, 64L, Kit.times(16, 0, 0, 0, 0, 0, 0, 1, 112, 0, 0, 0, 0, 3, 127, 0, 0, 0, 3, 127, 0));
    Kit.fault("64 of each beside 64 imports", m(types, imports, Kit.section(3, 64L, Kit.times(64, 0)), Kit.section(4, 64L, Kit.times(64, 112, 0, 0)),
      Kit.section(6, 64L, Kit.times(64, 127, 0, 65, 0, 11)), Kit.section(10, 64L, Kit.times(64, 2, 0, 11))));
  }

  private static int[] many(int n, int kind) {
    int[] out = new int[n];
    Arrays.fill(out, kind);
    return out;
  }

  /** 40 a type with more than 16 parameters or results. */
  private static void limitOfTypes() {
    for (int n : new int[] {0, 1, 15, 16, 17, 18, 127, 200}) {
      int fault = n > 16 ? 40 : 0;
      Kit.fault(n + " parameters", m(Kit.section(0, "x"), Kit.section(1, 1, Kit.type(many(n, 127), NO))), fault, 12);
      Kit.fault(n + " results", m(Kit.section(0, "x"), Kit.section(1, 1, Kit.type(NO, many(n, 111)))), fault, 12);
      Kit.fault(n + " results of the last type", m(Kit.section(1, 3, PLAIN, PLAIN, Kit.type(many(16, 126), many(n, 111)))), fault, 8);
    }
  }

  private static byte[] oneFunction(int[] params, byte[] body) {
    return m(Kit.section(1, 1, Kit.type(params, NO)), Kit.section(3, 1, 0), Kit.section(10, 1, body));
  }

  /** 40 a body with more than 1000 locals (parameters not counted). */
  private static void limitOfLocals() {
    Kit.fault("1000", oneFunction(NO, Kit.bodyWith(Kit.bytes(1, 1000L, 127))));
    Kit.fault("1001", oneFunction(NO, Kit.bodyWith(Kit.bytes(1, 1001L, 127))), 40, 18);
    Kit.fault("1000 in two runs", oneFunction(NO, Kit.bodyWith(Kit.bytes(2, 999L, 127, 1, 126))));
    Kit.fault("1001 in two runs", oneFunction(NO, Kit.bodyWith(Kit.bytes(2, 1000L, 127, 1, 126))), 40, 18);
    Kit.fault("1001 in three runs", oneFunction(NO, Kit.bodyWith(Kit.bytes(3, 1, 126, 1000L, 127, 0, 125))), 40, 18);
    Kit.fault("1000 and 16 parameters", oneFunction(many(16, 127), Kit.bodyWith(Kit.bytes(1, 1000L, 127), 32, 247, 7, 26)));
    Kit.fault("one behind them", oneFunction(many(16, 127), Kit.bodyWith(Kit.bytes(1, 1000L, 127), 32, 248, 7, 26)), 30, 42);
    Kit.fault("1001 and 16 parameters", oneFunction(many(16, 127), Kit.bodyWith(Kit.bytes(1, 1001L, 127))), 40, 34);
    Kit.fault("runs of nothing", oneFunction(NO, Kit.bodyWith(Kit.bytes(200L, Kit.times(200, 0, 127)))));
    Kit.fault("1001 in the second body", m(Kit.section(1, 1, PLAIN), Kit.section(3, 2, 0, 0),
      Kit.section(10, 2, Kit.bodyWith(Kit.bytes(1, 1000L, 127)), Kit.bodyWith(Kit.bytes(1, 1001L, 127)))), 40, 19);
  }

  /** 40 a 14 whose row has more than 200 labels (of a body: in other EXPRESSIONS these are 26). */
  private static void limitOfBranches() {
    for (int n : new int[] {0, 199, 200, 201, 300}) {
      byte[] branches = Kit.bytes(14, (long) n, Kit.times(n, 0), 0);
      Kit.fault("14 with " + n, oneFunction(NO, Kit.body(0, branches)), n > 200 ? 40 : 0, 18);
      byte[] global = Kit.section(6, 1, 127, 0, branches, 11);
      Kit.fault("14 with " + n + " in a global", m(global), 26, 8 + (global.length > 129 ? 3 : 2) + 3);
      byte[] element = Kit.section(9, 1, 0, branches, 11, 0);
      Kit.fault("14 with " + n + " in an element's place", m(4, 4, 1, 112, 0, 0, element), 26, 14 + (element.length > 129 ? 3 : 2) + 2);
      byte[] items = Kit.section(9, 1, 5, 112, 1, branches, 11);
      Kit.fault("14 with " + n + " in an element's item", m(items), 26, 8 + (items.length > 129 ? 3 : 2) + 4);
      byte[] data = Kit.section(11, 1, 0, branches, 11, 0);
      Kit.fault("14 with " + n + " in a data", m(5, 3, 1, 0, 0, data), 26, 13 + (data.length > 129 ? 3 : 2) + 2);
    }
  }

  /** 40 a 28 whose row has not just one type (of a body: in other EXPRESSIONS these are 26). */
  private static void limitOfChoices() {
    for (int n : new int[] {0, 1, 2, 3, 100}) {
      byte[] choice = Kit.bytes(28, n, Kit.times(n, 127));
      Kit.fault("28 with " + n, oneFunction(NO, Kit.body(0, choice, 26)), n == 1 ? 0 : 40, 18);
      Kit.fault("28 with " + n + " in a global", m(Kit.section(6, 1, 127, 0, choice, 11)), 26, 13);
      Kit.fault("28 with " + n + " in an element's place", m(4, 4, 1, 112, 0, 0, Kit.section(9, 1, 0, choice, 11, 0)), 26, 18);
      Kit.fault("28 with " + n + " in an element's item", m(Kit.section(9, 1, 5, 112, 1, choice, 11)), 26, 14);
      Kit.fault("28 with " + n + " in a data", m(5, 3, 1, 0, 0, Kit.section(11, 1, 0, choice, 11, 0)), 26, 17);
    }
    Kit.fault("28 of a type, with another wanted", oneFunction(NO, Kit.body(0, 65, 0, 65, 0, 28, 1, 126, 26)), 29, 28);
  }

  /** 40, ahead of all: the first section that has it. */
  private static void limitsAheadOfAll() {
    byte[] wide = Kit.section(1, 1, Kit.type(many(17, 127), NO));
    byte[] tables = Kit.section(4, 65L, Kit.times(65, 112, 1, 2, 1));
    Kit.fault("the first of two sections", m(wide, tables), 40, 8);
    Kit.fault("ahead of 20", m(Kit.section(1, 1, PLAIN), Kit.section(2, 1, 0, 0, 0, 9), tables), 40, 21);
    Kit.fault("ahead of 21", m(Kit.section(2, 1, 0, 0, 1, 112, 1, 2, 1), tables), 40, 18);
    Kit.fault("in the bodies, ahead of what is wrong in a global",
      m(Kit.section(1, 1, PLAIN), Kit.section(3, 1, 0), Kit.section(6, 1, 127, 0, 11), Kit.section(10, 1, Kit.body(0, 28, 0))), 40, 24);
    Kit.fault("in the data, ahead of what is wrong in the bodies", m(Kit.section(1, 1, PLAIN), Kit.section(3, 1, 0),
      Kit.section(10, 1, Kit.body(26)), Kit.section(11, 65L, Kit.times(65, 1, 0))), 40, 25);
  }

  /** 20 an import's or a function's type that there is not: imports first, each in order; the place is the section. */
  private static void typesOfFunctions() {
    byte[] two = Kit.section(1, 2, PLAIN, PLAIN);
    byte[] body = Kit.section(10, 1, 2, 0, 11);
    for (long t : new long[] {0, 1, 2, 3, 127, 4294967295L}) {
      int fault = t < 2 ? 0 : 20;
      Kit.fault("an import of type " + t, m(two, Kit.section(2, 1, 0, 0, 0, t)), fault, 17);
      Kit.fault("a function of type " + t, m(two, Kit.section(3, 1, t), body), fault, 17);
      Kit.fault("behind one of type 0", m(two, Kit.section(2, 2, 0, 0, 0, 0, 0, 0, 0, t)), fault, 17);
    }
    Kit.fault("imports first", m(two, Kit.section(2, 1, 0, 0, 0, 2), Kit.section(3, 1, 2), body), 20, 17);
    Kit.fault("no types", m(Kit.section(3, 1, 0), body), 20, 8);
    Kit.fault("ahead of 21", m(two, Kit.section(2, 1, 0, 0, 1, 112, 1, 2, 1), Kit.section(3, 1, 2), body), 20, 27);
  }

  /** 21 LIMITS whose least is above the greatest. */
  private static void leastAndGreatest() {
    long[][] rows = {{0, 0}, {1, 1}, {0, 1}, {65536, 65536}, {1, 0}, {2, 1}, {65536, 65535}};
    for (long[] r : rows) {
      int fault = r[0] > r[1] ? 21 : 0;
      byte[] limits = Kit.bytes(1, r[0], r[1]);
      String what = " from " + r[0] + " to " + r[1];
      Kit.fault("a table" + what, m(Kit.section(4, 1, 112, limits)), fault, 8);
      Kit.fault("a memory" + what, m(Kit.section(5, 1, limits)), fault, 8);
      Kit.fault("an imported table" + what, m(Kit.section(2, 1, 0, 0, 1, 112, limits)), fault, 8);
      Kit.fault("an imported memory" + what, m(Kit.section(2, 1, 0, 0, 2, limits)), fault, 8);
      Kit.fault("a table behind another" + what, m(Kit.section(4, 2, 111, 0, 9, 112, limits)), fault, 8);
    }
    Kit.fault("a table's greatest", m(Kit.section(4, 1, 112, 1, 4294967295L, 4294967295L)));
    Kit.fault("a table's least above", m(Kit.section(4, 1, 112, 1, 4294967295L, 4294967294L)), 21, 8);
    Kit.fault("a table's least without a greatest", m(Kit.section(4, 1, 112, 0, 4294967295L)));
  }

  /** 21 a memory of more than 65536 pages (least, greatest). */
  private static void pagesOfMemories() {
    for (long n : new long[] {65535, 65536, 65537, 4294967295L}) {
      int fault = n > 65536 ? 21 : 0;
      Kit.fault("a least of " + n, m(Kit.section(5, 1, 0, n)), fault, 8);
      Kit.fault("a greatest of " + n, m(Kit.section(5, 1, 1, 0, n)), fault, 8);
      Kit.fault("an imported least of " + n, m(Kit.section(2, 1, 0, 0, 2, 0, n)), fault, 8);
      Kit.fault("an imported greatest of " + n, m(Kit.section(2, 1, 0, 0, 2, 1, 0, n)), fault, 8);
    }
  }

  /** Imports, tables, memories in order; likewise. */
  private static void rangesInOrder() {
    byte[] imports = Kit.section(2, 1, 0, 0, 1, 112, 1, 2, 1);
    byte[] tables = Kit.section(4, 1, 112, 1, 2, 1);
    byte[] memories = Kit.section(5, 2, 1, 2, 1, 0, 0);
    Kit.fault("imports first", m(imports, tables, memories), 21, 8);
    Kit.fault("tables ahead of memories", m(tables, memories), 21, 8);
    Kit.fault("memories, ahead of 22", m(memories), 21, 8);
    Kit.fault("memories, ahead of 24", m(memories, Kit.section(7, 1, "a", 0, 0)), 21, 8);
  }

  /** 22 more than one memory (of section 5 if there is one, though its row be empty; else of section 2). */
  private static void oneMemory() {
    byte[] one = Kit.section(2, 1, 0, 0, 2, 0, 0);
    byte[] two = Kit.section(2, 2, 0, 0, 2, 0, 0, 0, 0, 2, 0, 0);
    Kit.fault("one that is imported", m(one));
    Kit.fault("one that is not", m(Kit.section(5, 1, 0, 0)));
    Kit.fault("one that is imported, and an empty row", m(one, Kit.section(5, 0)));
    Kit.fault("two that are imported", m(two), 22, 8);
    Kit.fault("two that are imported, and an empty row", m(two, Kit.section(5, 0)), 22, 8 + two.length);
    Kit.fault("one of each", m(one, Kit.section(5, 1, 0, 0)), 22, 8 + one.length);
    Kit.fault("two that are not", m(Kit.section(0, "x"), Kit.section(5, 2, 0, 0, 0, 0)), 22, 12);
    Kit.fault("ahead of 24", m(two, Kit.section(7, 1, "a", 0, 0)), 22, 8);
  }

  private static byte[] exporting(Object... exports) {
    return m(Kit.section(6, 1, 127, 0, 65, 0, 11), Kit.section(7, exports));
  }

  /** 23 two exports with one name. */
  private static void namesOfExports() {
    Kit.fault("names of nothing", exporting(2, "", 3, 0, "", 3, 0), 23, 16);
    Kit.fault("one name of nothing", exporting(2, "", 3, 0, "a", 3, 0));
    Kit.fault("the same name", exporting(2, "a", 3, 0, "a", 3, 0), 23, 16);
    Kit.fault("names with the same beginning", exporting(2, "ab", 3, 0, "abc", 3, 0));
    Kit.fault("names that differ in their last byte", exporting(2, "abc", 3, 0, "abd", 3, 0));
    Kit.fault("names that differ in their first byte", exporting(2, "abc", 3, 0, "bbc", 3, 0));
    Kit.fault("the first and the last", exporting(4, "abc", 3, 0, "b", 3, 0, "c", 3, 0, "abc", 3, 0), 23, 16);
    Kit.fault("of different kinds", m(Kit.section(5, 1, 0, 0), Kit.section(6, 1, 127, 0, 65, 0, 11), Kit.section(7, 2, "x", 3, 0, "x", 2, 0)), 23, 21);
    Kit.fault("names of imports are no matter", m(Kit.section(2, 2, "a", "b", 3, 127, 0, "a", "b", 3, 127, 0)));
  }

  /** 24 an export of what there is not. */
  private static void numbersOfExports() {
    byte[] head = Kit.bytes(Kit.section(1, 1, PLAIN), Kit.section(2, 3, 0, 0, 0, 0, 0, 0, 1, 112, 0, 0, 0, 0, 3, 127, 0), Kit.section(3, 1, 0),
      Kit.section(4, 1, 112, 0, 0), Kit.section(5, 1, 0, 0), Kit.section(6, 1, 127, 0, 65, 0, 11));
    byte[] tail = Kit.section(10, 1, 2, 0, 11);
    int[] counts = {2, 2, 1, 2};
    for (int kind = 0; kind < 4; kind++)
      for (long n : new long[] {0, 1, 2, 3, 4294967295L, 2147483648L})
        Kit.fault("export " + n + " of kind " + kind, m(head, Kit.section(7, 1, "a", kind, n), tail), n < counts[kind] ? 0 : 24, 8 + head.length);
    for (int kind = 0; kind < 4; kind++) Kit.fault("nothing is there", m(Kit.section(7, 1, "a", kind, 0)), 24, 8);
  }

  /** By exports in order (of one export 24 ahead of 23). */
  private static void exportsInOrder() {
    Kit.fault("24 of the second, which has the first one's name", exporting(2, "a", 3, 0, "a", 3, 1), 24, 16);
    Kit.fault("23 of the second, ahead of 24 of the third", exporting(3, "a", 3, 0, "a", 3, 0, "b", 3, 1), 23, 16);
    Kit.fault("24 of the second, ahead of 23 of the third", exporting(3, "a", 3, 0, "b", 3, 1, "a", 3, 0), 24, 16);
    Kit.fault("ahead of 25", m(Kit.section(7, 1, "a", 3, 0), Kit.section(8, 0)), 24, 8);
  }

  /** 25 a function to start that there is not, or has parameters or results: section 8. */
  private static void starts() {
    byte[] head = Kit.bytes(Kit.section(1, 3, PLAIN, Kit.type(INT, NO), Kit.type(NO, INT)), Kit.section(2, 3, 0, 0, 0, 0, 0, 0, 0, 1, 0, 0, 0, 2),
      Kit.section(3, 3, 0, 1, 2));
    byte[] tail = Kit.section(10, 3, Kit.body(), Kit.body(), Kit.body(65, 0));
    int[] faults = {0, 25, 25, 0, 25, 25};
    for (int f = 0; f < 6; f++) Kit.fault("start " + f, m(head, Kit.section(8, f), tail), faults[f], 8 + head.length);
    for (long f : new long[] {6, 7, 2147483647, 2147483648L, 4294967295L}) Kit.fault("start " + f, m(head, Kit.section(8, f), tail), 25, 8 + head.length);
    Kit.fault("no functions", m(Kit.section(8, 0)), 25, 8);
    Kit.fault("ahead of a global", m(Kit.section(6, 1, 127, 0, 11), Kit.section(8, 0)), 25, 14);
  }

  /** A function is DECLARED when an instruction 210 of a global's or an element's expression, an element, or an export has it. */
  private static void declared() {
    byte[] head = Kit.bytes(Kit.section(1, 1, PLAIN), Kit.section(3, 3, 0, 0, 0), Kit.section(4, 1, 112, 0, 3));
    byte[] global = Kit.section(6, 1, 112, 0, 210, 2, 11);
    byte[] export = Kit.section(7, 1, "a", 0, 2);
    byte[] otherExport = Kit.section(7, 1, "a", 1, 0);
    byte[] start = Kit.section(8, 2);
    byte[][] elements = {Kit.section(9, 1, 0, 65, 0, 11, 1, 2), Kit.section(9, 1, 1, 0, 1, 2), Kit.section(9, 1, 3, 0, 2, 0, 2),
      Kit.section(9, 1, 4, 65, 0, 11, 1, 210, 2, 11), Kit.section(9, 1, 5, 112, 2, 208, 112, 11, 210, 2, 11), Kit.section(9, 1, 7, 112, 1, 210, 2, 11)};
    byte[] uses = Kit.section(10, 3, Kit.body(210, 2, 26), Kit.body(16, 2), Kit.body());
    Kit.fault("a global's", m(head, global, uses));
    Kit.fault("an export's", m(head, export, uses));
    for (byte[] e : elements) Kit.fault("an element's", m(head, e, uses));
    int at = 8 + head.length + 5;
    Kit.fault("none", m(head, uses), 30, at);
    Kit.fault("one to start is not", m(head, start, uses), 30, at + start.length);
    Kit.fault("an export of another kind is not", m(head, otherExport, uses), 30, at + otherExport.length);
    byte[] usesZero = Kit.section(10, 3, Kit.body(210, 0, 26), Kit.body(), Kit.body());
    Kit.fault("nor one of the same number", m(head, otherExport, usesZero), 30, at + otherExport.length);
    byte[] other = Kit.section(9, 1, 1, 0, 2, 0, 1);
    Kit.fault("others are", m(head, other, uses), 30, at + other.length);
    byte[] itself = Kit.section(10, 3, Kit.body(16, 2), Kit.body(), Kit.body(210, 2, 26));
    Kit.fault("one that a body has is not", m(head, itself), 30, 8 + head.length + 3 + 5 + 3 + 2);
    byte[] zero = Kit.bytes(Kit.section(1, 1, PLAIN), Kit.section(3, 1, 0), Kit.section(10, 1, Kit.body(210, 0, 26)));
    Kit.fault("function 0 is not by itself", m(zero), 30, 23);
  }

  /** 28 (the section) a function of an element that there is not. */
  private static void functionsOfElements() {
    byte[] head = Kit.bytes(Kit.section(1, 1, PLAIN), Kit.section(2, 1, 0, 0, 0, 0), Kit.section(3, 1, 0), Kit.section(4, 1, 112, 0, 3));
    byte[] tail = Kit.section(10, 1, 2, 0, 11);
    for (long f : new long[] {0, 1, 2, 3, 127, 4294967295L}) {
      int fault = f < 2 ? 0 : 28;
      int at = 8 + head.length;
      Kit.fault("passive: " + f, m(head, Kit.section(9, 1, 1, 0, 1, f), tail), fault, at);
      Kit.fault("declared: " + f, m(head, Kit.section(9, 1, 3, 0, 2, 0, f), tail), fault, at);
      Kit.fault("active: " + f, m(head, Kit.section(9, 1, 0, 65, 0, 11, 2, 1, f), tail), fault, at);
      Kit.fault("an expression: " + f, m(head, Kit.section(9, 1, 5, 112, 1, 210, f, 11), tail), fault, at + 6);
      Kit.fault("a global: " + f, m(head, Kit.section(6, 1, 112, 0, 210, f, 11), tail), fault, at + 5);
    }
  }

  /** 28 (the section) the table of an ACTIVE one that there is not or is of another type. */
  private static void tablesOfElements() {
    byte[] head = Kit.bytes(Kit.section(2, 1, 0, 0, 1, 112, 0, 0), Kit.section(4, 1, 111, 0, 3));
    int at = 8 + head.length;
    for (long t : new long[] {0, 1, 2, 3, 4294967295L}) {
      Kit.fault("of functions, to table " + t, m(head, Kit.section(9, 1, 2, t, 65, 0, 11, 0, 0)), t == 0 ? 0 : 28, at);
      Kit.fault("of 112, to table " + t, m(head, Kit.section(9, 1, 6, t, 65, 0, 11, 112, 0)), t == 0 ? 0 : 28, at);
      Kit.fault("of 111, to table " + t, m(head, Kit.section(9, 1, 6, t, 65, 0, 11, 111, 0)), t == 1 ? 0 : 28, at);
    }
    Kit.fault("m of 0 without tables", m(Kit.section(9, 1, 0, 65, 0, 11, 0)), 28, 8);
    Kit.fault("m of 4 without tables", m(Kit.section(9, 1, 4, 65, 0, 11, 0)), 28, 8);
    Kit.fault("m of 0 to a table of 111", m(Kit.section(4, 1, 111, 0, 3), Kit.section(9, 1, 0, 65, 0, 11, 0)), 28, 14);
    Kit.fault("m of 4 to a table of 111", m(Kit.section(4, 1, 111, 0, 3), Kit.section(9, 1, 4, 65, 0, 11, 0)), 28, 14);
    Kit.fault("passive and declared ones want no table", m(Kit.section(9, 4, 1, 0, 0, 3, 0, 0, 5, 111, 0, 7, 112, 0)));
  }

  /** 28 (the section) a data's memory that there is not. */
  private static void memoriesOfData() {
    byte[] memory = Kit.section(5, 1, 0, 0);
    for (long n : new long[] {0, 1, 2, 4294967295L}) {
      Kit.fault("memory " + n, m(memory, Kit.section(11, 1, 2, n, 65, 0, 11, 0)), n == 0 ? 0 : 28, 13);
      Kit.fault("memory " + n + " of none", m(Kit.section(11, 1, 2, n, 65, 0, 11, 0)), 28, 8);
    }
    Kit.fault("m of 0 without a memory", m(Kit.section(11, 1, 0, 65, 0, 11, 0)), 28, 8);
    Kit.fault("m of 1 without a memory", m(Kit.section(11, 1, 1, 0)));
    Kit.fault("an imported memory", m(Kit.section(2, 1, 0, 0, 2, 0, 0), Kit.section(11, 1, 0, 65, 0, 11, 0)));
  }

  /** Then the globals, elements, data, in order: 28; behind that, of each, its EXPRESSIONS (the place first, then its items). */
  private static void itemsInOrder() {
    byte[] table = Kit.section(4, 1, 112, 0, 9);
    Kit.fault("the function ahead of the place", m(table, Kit.section(9, 1, 0, 1, 11, 1, 0)), 28, 14);
    Kit.fault("the table ahead of the place", m(table, Kit.section(9, 1, 2, 1, 1, 11, 0, 0)), 28, 14);
    Kit.fault("the table ahead of the items", m(Kit.section(9, 1, 4, 65, 0, 11, 1, 1, 11)), 28, 8);
    Kit.fault("the place ahead of the items", m(table, Kit.section(9, 1, 4, 66, 0, 11, 1, 1, 11)), 27, 20);
    Kit.fault("the first item ahead of the second", m(table, Kit.section(9, 1, 5, 112, 2, 11, 1, 11)), 27, 20);
    Kit.fault("the first element ahead of the second", m(table, Kit.section(9, 2, 4, 1, 11, 0, 1, 0, 1, 0)), 26, 18);
    Kit.fault("the second element when the first is right", m(table, Kit.section(9, 2, 4, 65, 0, 11, 0, 1, 0, 1, 0)), 28, 14);
    Kit.fault("globals ahead of elements", m(table, Kit.section(6, 1, 127, 0, 11), Kit.section(9, 1, 1, 0, 1, 0)), 27, 19);
    Kit.fault("elements ahead of data", m(table, Kit.section(9, 1, 4, 1, 11, 0), Kit.section(11, 1, 0, 65, 0, 11, 0)), 26, 18);
    Kit.fault("the memory ahead of the place", m(Kit.section(11, 1, 0, 1, 11, 0)), 28, 8);
    Kit.fault("the first data ahead of the second", m(Kit.section(5, 1, 0, 0), Kit.section(11, 2, 0, 1, 11, 0, 2, 1, 65, 0, 11, 0)), 26, 17);
    Kit.fault("data ahead of bodies", m(Kit.section(1, 1, PLAIN), Kit.section(3, 1, 0), Kit.section(5, 1, 0, 0), Kit.section(10, 1, Kit.body(26)),
      Kit.section(11, 1, 0, 11, 0)), 27, 34);
  }

  /** What stands behind an instruction, in its shortest form; those that are none are left out. */
  private static byte[] whole(int op) {
    if (op == 2 || op == 3 || op == 4) return Kit.bytes(op, 64, 11);
    if (op == 12 || op == 13 || op == 16 || op >= 32 && op <= 38 || op == 210 || op >= 63 && op <= 66) return Kit.bytes(op, 0);
    if (op == 14) return Kit.bytes(op, 0, 0);
    if (op == 17 || op >= 40 && op <= 62) return Kit.bytes(op, 0, 0);
    if (op == 28) return Kit.bytes(op, 1, 127);
    if (op == 67) return Kit.bytes(op, new int[4]);
    if (op == 68) return Kit.bytes(op, new int[8]);
    if (op == 208) return Kit.bytes(op, 112);
    boolean alone = op <= 1 || op == 15 || op == 26 || op == 27 || op >= 69 && op <= 196 || op == 209;
    return alone ? Kit.bytes(op) : null;
  }

  /** 26 the first instruction that is not constant, which 65 .. 68, 208, 210, 35 of an imported global that can't change are. */
  private static void constants() {
    byte[] head = Kit.bytes(Kit.section(1, 1, PLAIN), Kit.section(2, 4, 0, 0, 0, 0, 0, 0, 3, 127, 0, 0, 0, 3, 127, 1, 0, 0, 3, 127, 0));
    int at = 8 + head.length;
    for (int op = 0; op < 211; op++) {
      byte[] instruction = whole(op);
      if (instruction == null) continue;
      boolean constant = op >= 65 && op <= 68 || op == 208 || op == 210 || op == 35;
      byte[] module = m(head, Kit.section(6, 1, 111, 0, instruction, 11));
      Kit.fault("the instruction " + op, module, constant ? 27 : 26, at + 5 + (constant ? instruction.length : 0));
    }
    for (int k = 0; k < 18; k++) {
      if (k == 8 || k == 9) continue;
      byte[] module = m(head, Kit.section(6, 1, 111, 0, 252, k, Kit.times(k == 10 || k == 12 || k == 14 ? 2 : k < 8 ? 0 : 1, 0), 11));
      Kit.fault("the instruction 252 " + k, module, 26, at + 5);
    }
    int[] faults = {0, 26, 0, 26, 26};
    for (int g = 0; g < 5; g++) Kit.fault("global " + g, m(head, Kit.section(6, 1, 127, 0, 35, g, 11)), faults[g], at + 5);
    Kit.fault("a global ahead of it, which is not imported", m(head, Kit.section(6, 2, 127, 0, 65, 0, 11, 127, 0, 35, 3, 11)), 26, at + 10);
    Kit.fault("a great global", m(head, Kit.section(6, 1, 127, 0, 35, 4294967295L, 11)), 26, at + 5);
  }

  /** 26 the first; otherwise 28 the first 210 of a function that there is not; otherwise 27 the END. */
  private static void constantsInOrder() {
    byte[] head = Kit.bytes(Kit.section(1, 1, PLAIN), Kit.section(2, 1, 0, 0, 0, 0));
    int at = 8 + head.length + 5;
    Kit.fault("26 behind a 210 that is not there", m(head, Kit.section(6, 1, 112, 0, 210, 1, 1, 11)), 26, at + 2);
    Kit.fault("the first of two 26", m(head, Kit.section(6, 1, 112, 0, 65, 0, 1, 0, 11)), 26, at + 2);
    Kit.fault("the first of two 28", m(head, Kit.section(6, 1, 112, 0, 210, 0, 210, 1, 210, 2, 11)), 28, at + 2);
    Kit.fault("28 ahead of 27", m(head, Kit.section(6, 1, 127, 0, 210, 1, 11)), 28, at);
    Kit.fault("27", m(head, Kit.section(6, 1, 127, 0, 210, 0, 11)), 27, at + 2);
  }

  /** 27 the END, when there is not just one value, of the global's type, the element's, or 127 for a place. */
  private static void oneValue() {
    int[] kinds = {127, 126, 125, 124, 112, 111};
    for (int wanted : kinds) {
      for (int given : kinds) {
        byte[] constant = given >= 124 ? Kit.constant(given, 0) : Kit.bytes(208, given);
        String what = given + " for " + wanted;
        int fault = given == wanted ? 0 : 27;
        Kit.fault("a global: " + what, m(Kit.section(6, 1, wanted, 0, constant, 11)), fault, 13 + constant.length);
        if (wanted < 124) Kit.fault("an element: " + what, m(Kit.section(9, 1, 5, wanted, 1, constant, 11)), fault, 14 + constant.length);
        if (wanted != 127) continue;
        Kit.fault("an element's place: " + what, m(Kit.section(4, 1, 112, 0, 0), Kit.section(9, 1, 0, constant, 11, 0)), fault, 18 + constant.length);
        Kit.fault("a data's place: " + what, m(Kit.section(5, 1, 0, 0), Kit.section(11, 1, 0, constant, 11, 0)), fault, 17 + constant.length);
      }
      Kit.fault("none for " + wanted, m(Kit.section(6, 1, wanted, 0, 11)), 27, 13);
      byte[] one = wanted >= 124 ? Kit.constant(wanted, 0) : Kit.bytes(208, wanted);
      Kit.fault("two for " + wanted, m(Kit.section(6, 1, wanted, 0, one, one, 11)), 27, 13 + 2 * one.length);
    }
  }

  private static final byte[] HEAD = Kit.bytes(
    Kit.section(1, 3, PLAIN, Kit.type(INT, INT), Kit.type(NO, new int[] {127, 126})),
    Kit.section(2, 2, "", "", 0, 1, "", "", 3, 127, 0),
    Kit.section(3, 2, 0, 0),
    Kit.section(4, 2, 112, 0, 4, 111, 0, 4),
    Kit.section(5, 1, 0, 1),
    Kit.section(6, 2, 127, 1, 35, 0, 11, 124, 0, 68, new int[8], 11),
    Kit.section(7, 1, "f", 0, 1),
    Kit.section(9, 2, 1, 0, 1, 0, 5, 111, 1, 208, 111, 11),
    Kit.section(12, 2));
  private static final byte[] LOCALS = Kit.bytes(6, 1, 127, 1, 126, 1, 125, 1, 124, 1, 112, 1, 111);

  /** A module with all there is (see TypesTest), and this code in its function 1. */
  private static byte[] full(Object... code) {
    return m(HEAD, Kit.section(10, 2, Kit.bodyWith(LOCALS, code), Kit.body()), Kit.section(11, 2, 1, 1, 5, 1, 0));
  }

  private static void at(String what, int fault, int place, Object... code) {
    byte[] c = Kit.bytes(code);
    int body = LOCALS.length + c.length + 1;
    int row = body + 4 + (body < 128 ? 1 : 2);
    int before = 8 + HEAD.length + (row < 128 ? 2 : 3) + 1 + (body < 128 ? 1 : 2) + LOCALS.length;
    Kit.fault(what, full(code), fault, before + place);
  }

  private static void right(String what, Object... code) { Kit.fault(what, full(code)); }

  private static final long[] GREAT = {127, 128, 2147483647, 2147483648L, 4294967295L};

  private static void there(String what, int count, int place, byte[] before, byte[] behind) {
    for (long n = 0; n < count; n++) right(what + " " + n, before, n, behind);
    for (long n = count; n < count + 3; n++) at(what + " " + n, 30, place, before, n, behind);
    for (long n : GREAT) at(what + " " + n, 30, place, before, n, behind);
  }

  /** 30 what it names is not there: a label. */
  private static void labelsThere() {
    byte[] none = {};
    there("12 to label", 1, 1, Kit.bytes(0, 12), none);
    there("13 to label", 1, 1, Kit.bytes(0, 13), none);
    there("14 at last to label", 1, 1, Kit.bytes(0, 14, 1, 0), none);
    there("14 first to label", 1, 1, Kit.bytes(0, 14, 2), Kit.bytes(0, 0));
    there("14 second to label", 1, 1, Kit.bytes(0, 14, 2, 0), Kit.bytes(0));
    there("12 in a block to label", 2, 2, Kit.bytes(2, 64, 12), Kit.bytes(11));
    there("12 behind a block to label", 1, 3, Kit.bytes(2, 64, 11, 12), none);
  }

  /** 30: a local. */
  private static void localsThere() {
    for (int op = 32; op <= 34; op++) there(op + " of local", 6, 1, Kit.bytes(0, op), op == 33 ? Kit.bytes() : Kit.bytes(26));
  }

  /** 30: a global, or a global to be set that can't change. */
  private static void globalsThere() {
    there("35 of global", 3, 1, Kit.bytes(0, 35), Kit.bytes(26));
    int[] faults = {30, 0, 30, 30, 30};
    for (int g = 0; g < 5; g++) {
      if (faults[g] == 0) right("36 of global " + g, 0, 36, g);
      else at("36 of global " + g, 30, 1, 0, 36, g);
    }
    for (long n : GREAT) at("36 of global " + n, 30, 1, 0, 36, n);
  }

  /** 30: a function; a function of 210 that is not DECLARED. */
  private static void functionsThere() {
    for (int f = 0; f < 5; f++) {
      byte[] more = f == 0 ? Kit.bytes(26) : Kit.bytes();
      if (f < 3) right("16 of function " + f, 0, 16, f, more);
      else at("16 of function " + f, 30, 1, 0, 16, f, more);
      if (f < 2) right("210 of function " + f, 0, 210, f, 26);
      else at("210 of function " + f, 30, 1, 0, 210, f, 26);
    }
    for (long n : GREAT) at("16 of function " + n, 30, 1, 0, 16, n);
    for (long n : GREAT) at("210 of function " + n, 30, 1, 0, 210, n);
  }

  /** 30: a type. */
  private static void typesThere() {
    for (int t = 0; t < 6; t++) {
      byte[] drop = t == 0 ? Kit.bytes() : t == 1 ? Kit.bytes(26) : Kit.bytes(26, 26);
      if (t < 3) right("17 of type " + t, 0, 17, t, 0, drop);
      else at("17 of type " + t, 30, 1, 0, 17, t, 0, drop);
      for (int op = 2; op <= 3; op++) {
        if (t < 3) right(op + " of type " + t, 0, op, t, 0, 11, drop);
        else at(op + " of type " + t, 30, 1, 0, op, t, 0, 11, drop);
      }
      if (t < 3) right("4 of type " + t, 0, 4, t, 0, 5, 0, 11, drop);
      else at("4 of type " + t, 30, 1, 0, 4, t, 0, 5, 0, 11, drop);
    }
    for (long n : GREAT) at("17 of type " + n, 30, 1, 0, 17, n, 0);
    for (long n : new long[] {63, 64, 2147483647, 2147483648L, 4294967295L}) at("2 of type " + n, 30, 1, 0, 2, Kit.signed(n), 11);
  }

  /** 30: a table; a table for 17 that is not of 112; tables or an element of different types for 252 with 12, 14. */
  private static void tablesThere() {
    there("37 of table", 2, 1, Kit.bytes(0, 37), Kit.bytes(26));
    there("38 of table", 2, 1, Kit.bytes(0, 38), Kit.bytes());
    there("252 15 of table", 2, 1, Kit.bytes(0, 252, 15), Kit.bytes(26));
    there("252 16 of table", 2, 1, Kit.bytes(0, 252, 16), Kit.bytes(26));
    there("252 17 of table", 2, 1, Kit.bytes(0, 252, 17), Kit.bytes());
    there("17 by table", 1, 1, Kit.bytes(0, 17, 0), Kit.bytes());
    for (int a = 0; a < 4; a++) {
      for (int b = 0; b < 4; b++) {
        boolean same = a < 2 && a == b;
        if (same) right("252 14 of tables " + a + ", " + b, 0, 252, 14, a, b);
        else at("252 14 of tables " + a + ", " + b, 30, 1, 0, 252, 14, a, b);
        if (same) right("252 12 of element " + a + ", table " + b, 0, 252, 12, a, b);
        else at("252 12 of element " + a + ", table " + b, 30, 1, 0, 252, 12, a, b);
      }
    }
    for (long n : GREAT) {
      at("252 14 to table " + n, 30, 1, 0, 252, 14, n, 0);
      at("252 14 from table " + n, 30, 1, 0, 252, 14, 0, n);
      at("252 12 to table " + n, 30, 1, 0, 252, 12, 0, n);
    }
  }

  /** 30: element, data. */
  private static void segmentsThere() {
    there("252 13 of element", 2, 1, Kit.bytes(0, 252, 13), Kit.bytes());
    there("252 9 of data", 2, 1, Kit.bytes(0, 252, 9), Kit.bytes());
    there("252 8 of data", 2, 1, Kit.bytes(0, 252, 8), Kit.bytes(0));
    for (long n : GREAT) at("252 12 of element " + n, 30, 1, 0, 252, 12, n, 0);
  }

  /** 30: or the memory. */
  private static void memoryThere() {
    byte[] head = Kit.bytes(Kit.section(1, 1, PLAIN), Kit.section(3, 1, 0), Kit.section(12, 1));
    byte[] memory = Kit.section(2, 1, 0, 0, 2, 0, 0);
    byte[] tail = Kit.section(11, 1, 1, 0);
    byte[] withMemory = Kit.bytes(Kit.section(1, 1, PLAIN), memory, Kit.section(3, 1, 0), Kit.section(12, 1));
    int[][] stretches = {{252, 8, 0, 0}, {252, 10, 0, 0}, {252, 11, 0}};
    for (int op = 40; op < 68; op++) {
      byte[] c = op < 63 ? Kit.bytes(0, op, 0, 0) : op < 65 ? Kit.bytes(0, op, 0) : Kit.bytes(0, stretches[op - 65]);
      byte[] drop = op < 54 || op == 63 || op == 64 ? Kit.bytes(26) : Kit.bytes();
      Kit.fault("without a memory: " + op, m(head, Kit.section(10, 1, Kit.body(c, drop)), tail), 30, 8 + head.length + 6);
      Kit.fault("with a memory: " + op, m(withMemory, Kit.section(10, 1, Kit.body(c, drop)), tail));
    }
  }

  /** 30: an alignment above the number of bytes (as 2 ^ alignment). */
  private static void alignments() {
    int[] widths = {2, 3, 2, 3, 0, 0, 1, 1, 0, 0, 1, 1, 2, 2, 2, 3, 2, 3, 0, 1, 0, 1, 2};
    for (int op = 40; op <= 62; op++) {
      byte[] drop = op < 54 ? Kit.bytes(26) : Kit.bytes();
      for (int a = 0; a < 6; a++) {
        if (a <= widths[op - 40]) right("alignment " + a + " of " + op, 0, op, a, 0, drop);
        else at("alignment " + a + " of " + op, 30, 1, 0, op, a, 0, drop);
      }
      for (long a : new long[] {31, 32, 63, 64, 127, 4294967295L}) at("alignment " + a + " of " + op, 30, 1, 0, op, a, 0, drop);
      right("the greatest offset of " + op, 0, op, 0, 4294967295L, drop);
    }
  }

  /** (30 ahead of 29.) */
  private static void thirtyFirst() {
    int[][] rows = {{12, 9}, {13, 9}, {14, 1, 0, 9}, {14, 1, 9, 0}, {16, 9}, {17, 9, 0}, {17, 0, 1}, {33, 9}, {34, 9}, {36, 0}, {37, 9}, {38, 9},
      {40, 3, 0}, {54, 3, 0}, {252, 8, 9, 0}, {252, 12, 0, 1}, {252, 14, 0, 1}, {252, 15, 9}, {252, 17, 9}, {4, 9, 11}};
    for (int[] row : rows) at("nothing is there for " + row[0], 30, 0, row);
  }

  /** Not below the innermost label's height. */
  private static void heights() {
    right("above it", 65, 0, 2, 64, 65, 0, 26, 11, 26);
    at("at it", 29, 4, 65, 0, 2, 64, 26, 11, 26);
    at("at it, of the function", 29, 0, 26);
    at("at it, in a 3", 29, 4, 65, 0, 3, 64, 26, 11, 26);
    at("at it, in a 4", 29, 6, 65, 0, 65, 0, 4, 64, 26, 11, 26);
    at("at it, behind 5", 29, 10, 65, 0, 65, 0, 4, 64, 65, 0, 26, 5, 26, 11, 26);
    right("parameters are above it", 65, 0, 2, 1, 26, 65, 1, 11, 26);
    at("what is below them is not", 29, 7, 65, 0, 65, 0, 2, 1, 26, 26, 65, 1, 11, 26, 26);
    at("the second of two is at it", 29, 6, 65, 0, 2, 64, 65, 0, 106, 26, 11, 26);
  }

  /** In a DEAD one, when there is none above it, whatever is wanted is there, not KNOWN. */
  private static void deadLabels() {
    right("any number of them", 0, Kit.times(50, 26));
    right("of any type", 0, 33, 0, 33, 1, 33, 2, 33, 3, 33, 4, 33, 5);
    right("not known ones are all alike", 0, 27, 33, 3, 27, 33, 0);
    at("those above it are looked at", 29, 3, 0, 65, 0, 33, 1);
    right("and then none is above it", 0, 65, 0, 33, 0, 33, 1);
    at("a label in it is open", 29, 3, 0, 2, 64, 26, 11);
    right("which ends, and it is dead still", 0, 2, 64, 11, 26);
    right("12 makes it dead", 12, 0, 26);
    right("14 makes it dead", 65, 0, 14, 0, 0, 26);
    right("15 makes it dead", 15, 26);
    at("13 does not", 29, 4, 65, 0, 13, 0, 26);
    right("all above its height is taken away", 65, 0, 65, 0, 0);
    at("not what is below it", 29, 6, 65, 0, 2, 64, 0, 11);
    at("what is put is too much at the end", 29, 3, 0, 65, 0);
  }

  /** 40 more than 200 labels (the function's own counted). */
  private static void twoHundredLabels() {
    for (int op = 2; op <= 3; op++) {
      right("200", Kit.times(199, op, 64), Kit.times(199, 11));
      at("201", 40, 398, Kit.times(200, op, 64), Kit.times(200, 11));
      right("200 twice", Kit.times(199, op, 64), 11, op, 64, Kit.times(199, 11));
      at("201 at the second time", 40, 401, Kit.times(199, op, 64), 11, op, 64, op, 64, Kit.times(200, 11));
    }
    right("200 of 4", Kit.times(199, 65, 0, 4, 64), Kit.times(199, 11));
    at("201 of 4", 40, 798, Kit.times(200, 65, 0, 4, 64), Kit.times(200, 11));
    at("201 in the dead", 40, 399, 0, Kit.times(200, 2, 64), Kit.times(200, 11));
    right("the function's label is the 200th", Kit.times(199, 2, 64), 12, 199L, Kit.times(199, 11));
    at("and no other", 30, 398, Kit.times(199, 2, 64), 12, 200L, Kit.times(199, 11));
  }

  private static byte[] put(int n) { return Kit.times(n, 65, 0); }

  /** 40 more than 1000 operands would be there. */
  private static void thousandOperands() {
    right("1000", put(1000), 0);
    at("1001", 40, 2000, put(1001), 0);
    right("1000 in several labels", put(600), 2, 64, put(400), 0, 11, 0);
    at("1001 in several labels", 40, 2002, put(600), 2, 64, put(401), 0, 11, 0);
    byte[][] puts = {{32, 1}, {35, 0}, {63, 0}, {66, 0}, {67, 0, 0, 0, 0}, {68, 0, 0, 0, 0, 0, 0, 0, 0}, {(byte) 208, 112}, {(byte) 210, 1}, {(byte) 252, 16, 0}};
    for (byte[] p : puts) {
      right("the 1000th by " + (p[0] & 255), put(999), p, 0);
      at("the 1001st by " + (p[0] & 255), 40, 2000, put(1000), p, 0);
    }
    right("34 puts what it takes", put(1000), 34, 0, 0);
    right("16 puts what it takes", put(1000), 16, 0, 0);
    right("1000 again", put(1000), 26, 65, 0, 0);
    right("results of a block", put(998), 2, 2, 65, 0, 66, 0, 11, 0);
    at("results of a block in it", 40, 2002, put(999), 2, 2, 65, 0, 66, 0, 11, 0);
    at("17 puts two for one", 40, 2000, put(1000), 17, 2, 0, 0);
    right("17 puts two for one", put(999), 17, 2, 0, 0);
  }

  /** As it takes, then begins its label, then puts, in order. */
  private static void takesThenBeginsThenPuts() {
    at("29 of the 201st label", 29, 398, Kit.times(199, 2, 64), 2, 1, 11, Kit.times(199, 11));
    at("30 of the 201st label", 30, 398, Kit.times(199, 2, 64), 2, 9, 11, Kit.times(199, 11));
    at("29 of the 201st label's condition", 29, 398, Kit.times(199, 2, 64), 4, 64, 11, Kit.times(199, 11));
    at("40 of it when it takes", 40, 400, Kit.times(199, 2, 64), 65, 0, 2, 1, 11, 26, Kit.times(199, 11));
    at("29 of what is 1000 high", 29, 2000, put(999), 66, 0, 34, 0, 0);
    at("29 ahead of 40 of two results", 29, 2000, put(999), 66, 0, 17, 2, 0, 0);
    right("a label's parameters are put again", put(1000), 2, 1, 11, 0);
  }

  /** Also in the dead: what is not there is not taken, but what is put is there. */
  private static void thousandInTheDead() {
    byte[] two = Kit.bytes(2, 2);
    right("13 in the dead puts what its label wants", put(998), two, 0, 13, 0, 0, 11, 0);
    at("13 in the dead puts one too many", 40, 2001, put(999), two, 0, 13, 0, 0, 11, 0);
    right("14 in the dead puts it again, and takes it", put(998), two, 0, 14, 1, 0, 0, 11, 0);
    at("14 in the dead puts one too many", 40, 2001, put(999), two, 0, 14, 1, 0, 0, 11, 0);
    right("14 without a row puts nothing", put(998), two, 0, 14, 0, 0, 11, 0);
    at("a block's results in the dead", 40, 2001, put(999), two, 0, 11, 0);
    at("which come to 1000 and no more", 40, 2000, put(998), two, 0, 11, 65, 0, 0);
    right("an operator in the dead", put(999), 2, 64, 0, 106, 26, 11, 0);
    at("an operator in the dead puts the 1001st", 40, 2003, put(1000), 2, 64, 0, 106, 26, 11, 0);
    right("34 in the dead puts the 1000th", put(999), 2, 64, 0, 34, 0, 26, 11, 0);
    at("34 in the dead puts the 1001st", 40, 2003, put(1000), 2, 64, 0, 34, 0, 26, 11, 0);
  }

  /** 5, END: just the label's results are there, no more (29). */
  private static void elseAndEnd() {
    for (int n = 0; n < 4; n++) {
      byte[] values = Kit.times(n, 65, 0);
      if (n == 1) right("one at END", 2, 127, values, 11, 26);
      else at(n + " at END for one", 29, 2 + 2 * n, 2, 127, values, 11, 26);
      if (n == 1) right("one at 5", 65, 0, 4, 127, values, 5, 65, 0, 11, 26);
      else at(n + " at 5 for one", 29, 4 + 2 * n, 65, 0, 4, 127, values, 5, 65, 0, 11, 26);
      if (n == 1) right("one behind 5", 65, 0, 4, 127, 65, 0, 5, values, 11, 26);
      else at(n + " behind 5 for one", 29, 7 + 2 * n, 65, 0, 4, 127, 65, 0, 5, values, 11, 26);
      if (n > 0) at(n + " at the function's END", 29, 2 * n, values);
      if (n > 0) at(n + " at END for none", 29, 2 + 2 * n, 2, 64, values, 11);
      if (n < 2) right(n + " in the dead", 2, 127, 0, values, 11, 26);
      else at(n + " in the dead for one", 29, 3 + 2 * n, 2, 127, 0, values, 11, 26);
    }
    at("of another type at END", 29, 4, 2, 126, 65, 0, 11, 26);
    at("the first of another type", 29, 6, 2, 2, 66, 0, 66, 0, 11, 26, 26);
    at("the second of another type", 29, 6, 2, 2, 65, 0, 65, 0, 11, 26, 26);
    right("a 4 without 5 whose results are like its parameters", 65, 0, 65, 0, 4, 1, 11, 26);
    at("a 4 without 5 whose results are not", 29, 6, 65, 0, 4, 127, 65, 0, 11, 26);
    at("nor in the dead", 29, 5, 65, 0, 4, 127, 0, 11, 26);
    right("5 opens it again", 65, 0, 4, 64, 0, 5, 11);
    at("and it is not dead then", 29, 6, 65, 0, 4, 64, 0, 5, 26, 11);
    right("END puts the results behind the label around it", 65, 0, 2, 127, 65, 0, 11, 106, 26);
    right("the label around a dead one is open", 2, 64, 0, 11, 65, 0, 26);
    at("and not dead", 29, 4, 2, 64, 0, 11, 26);
  }

  /** 12 x takes what label x wants, its results, or of a 3 its parameters; 13: 127, then these, and puts the label's types (KNOWN). */
  private static void branches() {
    right("12 wants the results of a 2", 2, 127, 65, 0, 12, 0, 11, 26);
    at("12 without them", 29, 2, 2, 127, 12, 0, 11, 26);
    right("12 wants the results of a 4", 65, 0, 4, 127, 65, 0, 12, 0, 5, 65, 0, 11, 26);
    right("12 wants no results of a 3", 3, 127, 12, 0, 11, 26);
    right("12 wants the parameters of a 3", 65, 0, 3, 1, 12, 0, 11, 26);
    at("12 without these", 29, 6, 65, 0, 3, 1, 33, 0, 12, 0, 11, 26);
    right("12 wants no parameters of a 2", 3, 64, 2, 127, 65, 0, 12, 0, 11, 26, 11);
    right("12 leaves more below", 2, 127, 66, 0, 66, 0, 65, 0, 12, 0, 11, 26);
    at("not of what is below the innermost label", 29, 9, 2, 127, 65, 0, 2, 64, 65, 0, 26, 12, 1, 11, 11, 26);
    at("13 wants 127", 29, 4, 2, 64, 66, 0, 13, 0, 11);
    at("13 wants the label's types below it", 29, 6, 2, 127, 66, 0, 65, 0, 13, 0, 11, 26);
    right("13 puts them", 2, 127, 65, 0, 65, 0, 13, 0, 11, 26);
    right("13 puts them in the dead", 2, 127, 0, 13, 0, 11, 26);
    at("13 puts them known", 29, 5, 2, 127, 0, 13, 0, 33, 1, 65, 0, 11, 26);
    right("15 wants the function's results", 2, 127, 15, 11, 26);
  }

  /** 14: for each label what it wants, as many as the last one does (29), puts what it took again (KNOWN or not); then for the last one. */
  private static void rowsOfBranches() {
    at("14 without a number", 29, 2, 2, 64, 14, 0, 0, 11);
    at("14 with a number of another type", 29, 4, 2, 64, 66, 0, 14, 0, 0, 11);
    right("14 with a number", 2, 64, 65, 0, 14, 0, 0, 11);
    at("one label wants more than the last", 29, 6, 2, 127, 2, 64, 65, 0, 14, 1, 1, 0, 11, 65, 0, 11, 26);
    at("one label wants less than the last", 29, 8, 2, 64, 2, 127, 65, 0, 65, 0, 14, 1, 1, 0, 11, 26, 11);
    at("in the dead, too", 29, 5, 2, 127, 2, 64, 0, 14, 1, 1, 0, 11, 65, 0, 11, 26);
    at("the last one's value is not there", 29, 4, 2, 127, 65, 0, 14, 0, 0, 11, 26);
    at("the last one's value is of another type", 29, 6, 2, 127, 66, 0, 65, 0, 14, 0, 0, 11, 26);
    at("the row's value is of another type", 29, 8, 2, 126, 2, 127, 65, 0, 65, 0, 14, 1, 1, 0, 11, 26, 66, 0, 11, 26);
    right("not known in the dead: of several types", 2, 126, 2, 127, 0, 14, 2, 0, 1, 0, 11, 26, 66, 0, 11, 26);
    right("known in the dead, as it is wanted", 2, 127, 2, 127, 0, 65, 0, 65, 0, 14, 2, 0, 1, 0, 11, 26, 65, 0, 11, 26);
    at("known in the dead, as it is not wanted by the second", 29, 9, 2, 126, 2, 127, 0, 65, 0, 65, 0, 14, 2, 0, 1, 0, 11, 26, 66, 0, 11, 26);
    at("known in the dead, as it is not wanted by the last", 29, 9, 2, 127, 2, 126, 0, 65, 0, 65, 0, 14, 1, 1, 0, 11, 26, 65, 0, 11, 26);
    right("of two values the second known", 2, 2, 0, 66, 0, 65, 0, 14, 1, 0, 0, 11, 26, 26);
    at("of two values the second known, and not as wanted", 29, 7, 2, 2, 0, 65, 0, 65, 0, 14, 1, 0, 0, 11, 26, 26);
    at("what was taken is as it was for the next", 29, 9, 2, 2, 2, 2, 0, 65, 0, 65, 0, 14, 2, 0, 1, 0, 11, 0, 11, 26, 26);
    right("a 3 wants its parameters", 65, 0, 3, 1, 65, 0, 14, 1, 0, 0, 11, 26);
    right("of two values the second known, above others", 65, 0, 2, 2, 0, 66, 0, 65, 0, 14, 2, 0, 0, 0, 11, 26, 26, 26);
    byte[] head = Kit.bytes(Kit.section(1, 2, PLAIN, Kit.type(NO, new int[] {127, 126, 125, 124})), Kit.section(3, 1, 0));
    byte[][] values = {Kit.constant(127, 0), Kit.constant(126, 0), Kit.constant(125, 0), Kit.constant(124, 0)};
    for (int known = 0; known <= 4; known++) {
      byte[] row = {};
      for (int i = 4 - known; i < 4; i++) row = Kit.bytes(row, values[i]);
      byte[] body = Kit.body(66, 0, 66, 0, 2, 1, 66, 0, 66, 0, 66, 0, 66, 0, 0, row, 65, 0, 14, 3, 0, 0, 0, 0, 11, 26, 26, 26, 26, 26, 26);
      Kit.fault("the last " + known + " of four known", m(head, Kit.section(10, 1, body)));
      if (known < 2) continue;
      byte[] other = Kit.bytes(values[0], row);
      byte[] wrong = Kit.body(0, 2, 1, 0, Arrays.copyOfRange(other, 0, other.length - 9), 65, 0, 14, 3, 0, 0, 0, 0, 11, 26, 26, 26, 26);
      Kit.fault("known, but not so", m(head, Kit.section(10, 1, wrong)), 29, 8 + head.length + 5 + 4 + other.length - 9 + 2);
    }
  }

  /** 27: 127, then two numbers (124 .. 127) of the same type, or not KNOWN, puts what is known of them. */
  private static void choices() {
    for (int a = 0; a < 6; a++) {
      for (int b = 0; b < 6; b++) {
        boolean fits = a == b && a < 4;
        if (fits) right("27 of locals " + a + ", " + b, 32, a, 32, b, 65, 0, 27, 33, a);
        else at("27 of locals " + a + ", " + b, 29, 6, 32, a, 32, b, 65, 0, 27, 26);
      }
      if (a < 4) right("27 of local " + a + " and not known", 0, 32, a, 65, 0, 27, 33, a);
      else at("27 of local " + a + " and not known", 29, 5, 0, 32, a, 65, 0, 27, 26);
      if (a < 4) at("which is known then", 29, 6, 0, 32, a, 65, 0, 27, 33, (a + 1) % 4);
      if (a == 4) right("209 of a reference", 32, a, 209, 26);
      if (a < 4) at("209 of local " + a, 29, 2, 32, a, 209, 26);
    }
    right("27 of two that are not known", 0, 65, 0, 27, 33, 2);
    right("which are as anything is wanted", 0, 65, 0, 27, 33, 4);
    right("209 of what is not known", 0, 209, 33, 0);
    at("27 of no condition", 29, 4, 65, 0, 65, 0, 27);
    at("27 of a condition of 126", 29, 6, 65, 0, 65, 0, 66, 0, 27, 26);
  }

  /** 16, 17: parameters, then puts the results (17: 127 first of all). */
  private static void callsByTable() {
    right("17 with its parameter", 65, 0, 65, 0, 17, 1, 0, 26);
    at("17 without it", 29, 2, 65, 0, 17, 1, 0, 26);
    at("17 without a number", 29, 0, 17, 0, 0);
    at("17 with a parameter of another type", 29, 4, 66, 0, 65, 0, 17, 1, 0, 26);
    at("17 with a number of another type", 29, 4, 65, 0, 66, 0, 17, 1, 0, 26);
    right("17 puts its results", 65, 0, 17, 2, 0, 33, 1, 33, 0);
    at("17 puts its results in their order", 29, 5, 65, 0, 17, 2, 0, 33, 0, 33, 1);
    at("17 puts no more", 29, 7, 65, 0, 17, 2, 0, 26, 26, 26);
    at("16 with a parameter of another type", 29, 2, 66, 0, 16, 0, 26);
    right("16 puts its result", 65, 0, 16, 0, 33, 0);
    at("16 puts its result, not another", 29, 4, 65, 0, 16, 0, 33, 1);
  }

  /** 32 .. 36 the local's type: parameters first, then the locals, each as often as said. */
  private static void parameters() {
    int[] kinds = {127, 126, 125, 124, 112, 111};
    byte[] head = Kit.bytes(Kit.section(1, 1, Kit.type(kinds, NO)), Kit.section(3, 1, 0));
    for (int a = 0; a < 12; a++) {
      for (int b = 0; b < 12; b++) {
        byte[] body = Kit.bodyWith(Kit.bytes(5, 1, 111, 2, 112, 0, 126, 1, 124, 2, 125), 32, a, 33, b);
        int[] all = {127, 126, 125, 124, 112, 111, 111, 112, 112, 124, 125, 125};
        Kit.fault("local " + a + " to local " + b, m(head, Kit.section(10, 1, body)), all[a] == all[b] ? 0 : 29, 8 + head.length + 17);
      }
    }
  }

  /** BODIES, in order, each instruction as it comes. */
  private static void bodiesInOrder() {
    byte[] head = Kit.bytes(Kit.section(1, 2, PLAIN, Kit.type(INT, INT)), Kit.section(3, 3, 0, 1, 0));
    int at = 8 + head.length + 3;
    Kit.fault("all right", m(head, Kit.section(10, 3, Kit.body(), Kit.body(32, 0), Kit.body())));
    Kit.fault("the second", m(head, Kit.section(10, 3, Kit.body(), Kit.body(32, 1), Kit.body(26))), 30, at + 3 + 2);
    Kit.fault("the third", m(head, Kit.section(10, 3, Kit.body(), Kit.body(32, 0), Kit.body(26))), 29, at + 3 + 5 + 2);
    Kit.fault("the first ahead of the third", m(head, Kit.section(10, 3, Kit.body(65, 0), Kit.body(32, 0), Kit.body(26))), 29, at + 4);
    Kit.fault("its first instruction", m(head, Kit.section(10, 3, Kit.body(26, 12, 9), Kit.body(32, 0), Kit.body())), 29, at + 2);
    Kit.fault("locals of one are not of the next", m(head, Kit.section(10, 3, Kit.bodyWith(Kit.bytes(1, 3, 127)), Kit.body(32, 0), Kit.body(32, 0, 26))), 30,
      at + 5 + 5 + 2);
  }

  /** An instruction with what it takes, the last one said last, and what it puts, by the numbers of locals of these types. */
  private static void signature(byte[] instruction, int[] takes, int... puts) {
    String what = "instruction " + (instruction[0] & 255) + (instruction[0] == (byte) 252 ? " " + instruction[1] : "");
    byte[] in = {};
    for (int t : takes) in = Kit.bytes(in, 32, t);
    byte[] out = {};
    for (int i = puts.length - 1; i >= 0; i--) out = Kit.bytes(out, 33, puts[i]);
    right(what, in, instruction, out);
    right(what + " in the dead", 0, instruction, out);
    for (int i = 0; i < takes.length; i++) {
      for (int other = 0; other < 6; other++) {
        if (other == takes[i]) continue;
        byte[] wrong = in.clone();
        wrong[2 * i + 1] = (byte) other;
        at(what + " with another operand " + i, 29, in.length, wrong, instruction, out);
        at(what + " with another operand " + i + " in the dead", 29, 1 + in.length, 0, wrong, instruction, out);
      }
    }
    if (takes.length > 0) at(what + " with one too few", 29, in.length - 2, Arrays.copyOfRange(in, 2, in.length), instruction, out);
    if (puts.length == 0) {
      at(what + " puts nothing", 29, in.length + instruction.length, in, instruction, 26);
      return;
    }
    for (int other = 0; other < 6; other++) {
      if (other == puts[puts.length - 1]) continue;
      at(what + " puts its own type", 29, in.length + instruction.length, in, instruction, 33, other);
      at(what + " puts its own type in the dead", 29, 1 + instruction.length, 0, instruction, 33, other);
    }
    at(what + " puts no more", 29, in.length + instruction.length + 2 * puts.length, in, instruction, out, 26);
  }

  private static int[] row(int... locals) { return locals; }

  /** What each instruction takes and puts, by its types (the operators of Part III are in TypesTest). */
  private static void takenAndPut() {
    int[] kinds = {0, 1, 2, 3, 0, 0, 0, 0, 1, 1, 1, 1, 1, 1, 0, 1, 2, 3, 0, 0, 1, 1, 1};
    for (int op = 40; op < 54; op++) signature(Kit.bytes(op, 0, 0), row(0), kinds[op - 40]);
    for (int op = 54; op < 63; op++) signature(Kit.bytes(op, 0, 0), row(0, kinds[op - 40]));
    signature(Kit.bytes(63, 0), row(), 0);
    signature(Kit.bytes(64, 0), row(0), 0);
    signature(Kit.bytes(65, 0), row(), 0);
    signature(Kit.bytes(66, 0), row(), 1);
    signature(Kit.bytes(67, new int[4]), row(), 2);
    signature(Kit.bytes(68, new int[8]), row(), 3);
    signature(Kit.bytes(208, 112), row(), 4);
    signature(Kit.bytes(208, 111), row(), 5);
    signature(Kit.bytes(210, 1), row(), 4);
    for (int i = 0; i < 6; i++) {
      signature(Kit.bytes(32, i), row(), i);
      signature(Kit.bytes(33, i), row(i));
      signature(Kit.bytes(34, i), row(i), i);
      signature(Kit.bytes(28, 1, i < 4 ? 127 - i : 116 - i), row(i, i, 0), i);
    }
    signature(Kit.bytes(35, 0), row(), 0);
    signature(Kit.bytes(35, 2), row(), 3);
    signature(Kit.bytes(36, 1), row(0));
    for (int t = 0; t < 2; t++) {
      signature(Kit.bytes(37, t), row(0), 4 + t);
      signature(Kit.bytes(38, t), row(0, 4 + t));
      signature(Kit.bytes(252, 15, t), row(4 + t, 0), 0);
      signature(Kit.bytes(252, 16, t), row(), 0);
      signature(Kit.bytes(252, 17, t), row(0, 4 + t, 0));
      signature(Kit.bytes(252, 12, t, t), row(0, 0, 0));
      signature(Kit.bytes(252, 14, t, t), row(0, 0, 0));
      signature(Kit.bytes(252, 13, t), row());
      signature(Kit.bytes(252, 8, t, 0), row(0, 0, 0));
      signature(Kit.bytes(252, 9, t), row());
    }
    signature(Kit.bytes(252, 10, 0, 0), row(0, 0, 0));
    signature(Kit.bytes(252, 11, 0), row(0, 0, 0));
    signature(Kit.bytes(16, 0), row(0), 0);
    signature(Kit.bytes(16, 1), row());
    signature(Kit.bytes(17, 1, 0), row(0, 0), 0);
    signature(Kit.bytes(17, 2, 0), row(0), 0, 1);
    signature(Kit.bytes(1), row());
  }

  /** 64 that are imported and 64 that are not: the last of them has number 127, and 128 is not there. */
  private static void lastNumbers() {
    byte[] types = Kit.section(1, 64L, Kit.times(63, PLAIN), Kit.type(INT, INT));
    byte[] functions = Kit.bytes(types, Kit.section(2, 64L, Kit.times(64, 0, 0, 0, 0)), Kit.section(3, 64L, Kit.times(63, 0), 63));
    byte[] tables = Kit.bytes(Kit.section(1, 1, PLAIN), Kit.section(2, 64L, Kit.times(64, 0, 0, 1, 111, 0, 0)), Kit.section(3, 1, 0),
      Kit.section(4, 64L, Kit.times(63, 111, 0, 0), 112, 0, 0));
    byte[] globals = Kit.bytes(Kit.section(1, 1, PLAIN), Kit.section(2, 64L, Kit.times(63, 0, 0, 3, 126, 0), 0, 0, 3, 125, 0), Kit.section(3, 1, 0),
      Kit.section(6, 64L, Kit.times(63, 126, 0, 35, 62, 11), 125, 1, 35, 63, 11));
    for (long n : new long[] {126, 127, 128, 129}) {
      boolean there = n < 128;
      byte[] last = Kit.body(32, 0);
      byte[] bodies = Kit.bytes(Kit.times(62, 2, 0, 11), Kit.body(0, 16, n, 0, 210, n, 26), last);
      byte[] exports = Kit.section(7, 2, "a", 0, 126L, "b", 0, 127L);
      byte[] module = m(functions, exports, Kit.section(10, 64L, bodies));
      Kit.fault("16 and 210 of function " + n, module, there ? 0 : 30, 8 + functions.length + exports.length + 4 + 62 * 3 + 3);
      Kit.fault("an export of function " + n, m(functions, Kit.section(7, 1, "a", 0, n), Kit.section(10, 64L, Kit.times(63, 2, 0, 11), last)), there ? 0 : 24, 8 + functions.length);
      Kit.fault("an element of function " + n, m(functions, Kit.section(9, 1, 1, 0, 1, n), Kit.section(10, 64L, Kit.times(63, 2, 0, 11), last)), there ? 0 : 28,
        8 + functions.length);
      byte[][] uses = {Kit.bytes(0, 37, n, 26), Kit.bytes(0, 38, n), Kit.bytes(0, 252, 15, n, 26), Kit.bytes(0, 252, 16, n, 26), Kit.bytes(0, 252, 17, n),
        Kit.bytes(0, 252, 14, n, n)};
      for (byte[] use : uses) Kit.fault("table " + n, m(tables, Kit.section(10, 1, Kit.body(use))), there ? 0 : 30, 8 + tables.length + 6);
      Kit.fault("17 by table " + n, m(tables, Kit.section(10, 1, Kit.body(0, 17, 0, n))), n == 127 ? 0 : 30, 8 + tables.length + 6);
      Kit.fault("an element to table " + n, m(tables, Kit.section(9, 1, 2, n, 65, 0, 11, 0, 0), Kit.section(10, 1, Kit.body())), n == 127 ? 0 : 28, 8 + tables.length);
      Kit.fault("35 of global " + n, m(globals, Kit.section(10, 1, Kit.body(0, 35, n, 26))), there ? 0 : 30, 8 + globals.length + 6);
      Kit.fault("36 of global " + n, m(globals, Kit.section(10, 1, Kit.body(0, 36, n))), n == 127 ? 0 : 30, 8 + globals.length + 6);
    }
    Kit.fault("the type of global 127", m(globals, Kit.section(10, 1, Kit.body(67, new int[4], 36, 127L))));
    Kit.fault("the type of global 127, not another", m(globals, Kit.section(10, 1, Kit.body(66, 0, 36, 127L))), 29, 8 + globals.length + 7);
  }
}
