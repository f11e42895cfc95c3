/** Promises 3 and 4 with Part II: the faults 20 to 30 and 40 at their places, and what is just no fault. */
public final class TypesTest {
  private static final int[] NO = {};
  private static final byte[] PLAIN = Kit.type(NO, NO);

  public static void main(String[] args) {
    limits();
    outline();
    constants();
    names();
    operands();
    dead();
    blocks();
    branches();
    operators();
    mostOperands();
    Kit.finish();
  }

  private static byte[] m(Object... sections) { return Kit.module(sections); }

  /**
   * A module with all there is: types 0 () to (), 1 (127) to (127), 2 () to (127 126); functions 0 (imported, type 1),
   * 1 (type 0, this code), 2 (type 0, not declared); tables 0 of 112, 1 of 111; a memory; globals 0 (127, imported,
   * fixed), 1 (127, changes), 2 (124, fixed); an element of 112, one of 111; two data. Locals 0 to 5: 127 126 125 124 112 111.
   */
  private static byte[] full(Object... code) {
    return m(HEAD, Kit.section(10, 2, Kit.bodyWith(LOCALS, code), Kit.body()), Kit.section(11, 2, 1, 1, 5, 1, 0));
  }

  private static final byte[] LOCALS = Kit.bytes(6, 1, 127, 1, 126, 1, 125, 1, 124, 1, 112, 1, 111);
  private static final byte[] HEAD = Kit.bytes(
    Kit.section(1, 3, PLAIN, Kit.type(new int[] {127}, new int[] {127}), Kit.type(NO, new int[] {127, 126})),
    Kit.section(2, 2, "", "", 0, 1, "", "", 3, 127, 0),
    Kit.section(3, 2, 0, 0),
    Kit.section(4, 2, 112, 0, 4, 111, 0, 4),
    Kit.section(5, 1, 0, 1),
    Kit.section(6, 2, 127, 1, 35, 0, 11, 124, 0, 68, new int[8], 11),
    Kit.section(7, 1, "f", 0, 1),
    Kit.section(9, 2, 1, 0, 1, 0, 5, 111, 1, 208, 111, 11),
    Kit.section(12, 2));

  /** A fault at so many bytes from the first instruction of the body of full() on. */
  private static void at(String what, int fault, int place, Object... code) {
    byte[] c = Kit.bytes(code);
    int body = LOCALS.length + c.length + 1;
    int before = 8 + HEAD.length + (body + 6 < 128 ? 2 : 3) + 1 + (body < 128 ? 1 : 2) + LOCALS.length;
    Kit.fault(what, full(code), fault, before + place);
  }

  private static void right(String what, Object... code) { Kit.fault(what, full(code)); }

  private static void limits() {
    Kit.fault("64 types", m(Kit.section(1, 64L, Kit.times(64, PLAIN))));
    Kit.fault("65 types", m(Kit.section(0, "x"), Kit.section(1, 65L, Kit.times(65, PLAIN))), 40, 12);
    Kit.fault("64 imports", m(Kit.section(2, 64L, Kit.times(64, 0, 0, 3, 127, 0))));
    Kit.fault("65 imports", m(Kit.section(2, 65L, Kit.times(65, 0, 0, 3, 127, 0))), 40, 8);
    byte[] types = Kit.section(1, 1, PLAIN);
    Kit.fault("64 functions", m(types, Kit.section(3, 64L, Kit.times(64, 0)), Kit.section(10, 64L, Kit.times(64, 2, 0, 11))));
    Kit.fault("65 functions", m(types, Kit.section(3, 65L, Kit.times(65, 0)), Kit.section(10, 65L, Kit.times(65, 2, 0, 11))), 40, 14);
    Kit.fault("64 tables", m(Kit.section(4, 64L, Kit.times(64, 112, 0, 0))));
    Kit.fault("65 tables", m(Kit.section(4, 65L, Kit.times(65, 112, 0, 0))), 40, 8);
    Kit.fault("64 memories", m(Kit.section(5, 64L, Kit.times(64, 0, 0))), 22, 8);
    Kit.fault("65 memories", m(Kit.section(5, 65L, Kit.times(65, 0, 0))), 40, 8);
    Kit.fault("64 globals", m(Kit.section(6, 64L, Kit.times(64, 127, 0, 65, 0, 11))));
    Kit.fault("65 globals", m(Kit.section(6, 65L, Kit.times(65, 127, 0, 65, 0, 11))), 40, 8);
    byte[] exports = {};
    for (int i = 0; i < 64; i++) exports = Kit.bytes(exports, 1, 32 + i, 3, 0);
    byte[] global = Kit.section(6, 1, 127, 0, 65, 0, 11);
    Kit.fault("64 exports", m(global, Kit.section(7, 64L, exports)));
    Kit.fault("65 exports", m(global, Kit.section(7, 65L, exports, 0, 3, 0)), 40, 16);
    Kit.fault("64 elements", m(Kit.section(9, 64L, Kit.times(64, 1, 0, 0))));
    Kit.fault("65 elements", m(Kit.section(9, 65L, Kit.times(65, 1, 0, 0))), 40, 8);
    Kit.fault("64 data", m(Kit.section(11, 64L, Kit.times(64, 1, 0))));
    Kit.fault("65 data", m(Kit.section(12, 65L), Kit.section(11, 65L, Kit.times(65, 1, 0))), 40, 11);
    int[] sixteen = new int[16];
    int[] seventeen = new int[17];
    java.util.Arrays.fill(sixteen, 127);
    java.util.Arrays.fill(seventeen, 126);
    Kit.fault("16 parameters and results", m(Kit.section(1, 1, Kit.type(sixteen, sixteen))));
    Kit.fault("17 parameters", m(Kit.section(1, 1, Kit.type(seventeen, NO))), 40, 8);
    Kit.fault("17 results", m(Kit.section(1, 1, Kit.type(NO, seventeen))), 40, 8);
    Kit.fault("the first section that has too much", m(Kit.section(5, 2, 0, 0, 0, 0), Kit.section(6, 65L, Kit.times(65, 127, 0, 65, 0, 11)), Kit.section(11, 65L, Kit.times(65, 1, 0))), 40, 15);
    byte[] one = Kit.bytes(types, Kit.section(3, 1, 0));
    Kit.fault("1000 locals", m(one, Kit.section(10, 1, Kit.bodyWith(Kit.bytes(2, 232, 7, 127, 0, 126)))));
    Kit.fault("1001 locals", m(one, Kit.section(10, 1, Kit.bodyWith(Kit.bytes(2, 232, 7, 127, 1, 126)))), 40, 18);
    Kit.fault("200 labels in a row", m(one, Kit.section(10, 1, Kit.body(65, 0, 14, 200L, Kit.times(200, 0), 0))));
    Kit.fault("201 labels in a row", m(one, Kit.section(10, 1, Kit.body(65, 0, 14, 201L, Kit.times(201, 0), 0))), 40, 18);
    Kit.fault("28 with no type", m(one, Kit.section(10, 1, Kit.body(0, 28, 0))), 40, 18);
    Kit.fault("28 with two types", m(one, Kit.section(10, 1, Kit.body(0, 28, 2, 127, 127))), 40, 18);
    Kit.fault("28 with two types in a global", m(Kit.section(6, 1, 127, 0, 28, 2, 127, 127, 11)), 26, 13);
    Kit.fault("14 with 201 labels in a global", m(Kit.section(6, 1, 127, 0, 14, 201L, Kit.times(201, 0), 0, 11)), 26, 14);
    int deep = 199;
    right("200 labels", Kit.times(deep, 2, 64), Kit.times(deep, 11));
    at("201 labels", 40, 398, Kit.times(200, 2, 64), Kit.times(200, 11));
    at("201 labels of 4: 127 first", 29, 398, Kit.times(199, 2, 64), 4, 64, Kit.times(200, 11));
    right("1000 operands", Kit.times(1000, 65, 0), 0);
    at("1001 operands", 40, 2000, Kit.times(1001, 65, 0), 0);
    at("1001 operands, one in a block", 40, 2002, Kit.times(999, 65, 0), 2, 2, 65, 0, 66, 0, 11, 0);
    at("1001 operands behind a block that is dead", 40, 2001, Kit.times(999, 65, 0), 2, 2, 0, 11, 0);
    at("1001 operands, as a 13 in the dead puts them", 40, 2001, Kit.times(999, 65, 0), 2, 2, 0, 13, 0, 11, 0);
    at("1001 operands, as a 14 in the dead puts them", 40, 2001, Kit.times(999, 65, 0), 2, 2, 0, 14, 1, 0, 0, 11, 0);
    right("1000 operands, as a 14 in the dead takes them", Kit.times(998, 65, 0), 2, 2, 0, 14, 1, 0, 0, 11, 0);
    at("1001 operands by a global", 40, 2000, Kit.times(1000, 65, 0), 35, 0, 0);
  }

  private static void outline() {
    byte[] types = Kit.section(1, 1, PLAIN);
    Kit.fault("an import's type", m(Kit.section(2, 1, 0, 0, 0, 0)), 20, 8);
    Kit.fault("an import's type, ahead of a function's", m(types, Kit.section(2, 1, 0, 0, 0, 1), Kit.section(3, 1, 9), Kit.section(10, 1, 2, 0, 11)), 20, 14);
    Kit.fault("a function's type", m(types, Kit.section(3, 2, 0, 1), Kit.section(10, 2, 2, 0, 11, 2, 0, 11)), 20, 14);
    Kit.fault("20 ahead of 21", m(Kit.section(2, 2, 0, 0, 2, 1, 2, 1, 0, 0, 0, 7)), 20, 8);
    Kit.fault("a function's type ahead of an import's LIMITS", m(Kit.section(2, 1, 0, 0, 2, 1, 2, 1), Kit.section(3, 1, 5), Kit.section(10, 1, 2, 0, 11)), 20, 17);
    Kit.fault("LIMITS of a table", m(Kit.section(4, 1, 112, 1, 2, 1)), 21, 8);
    Kit.fault("LIMITS of a table that are as great as may be", m(Kit.section(4, 1, 112, 1, 0, 255, 255, 255, 255, 15)));
    Kit.fault("LIMITS of a memory", m(Kit.section(5, 1, 1, 2, 1)), 21, 8);
    Kit.fault("LIMITS of an import, ahead of a table", m(Kit.section(2, 1, 0, 0, 1, 112, 1, 2, 1), Kit.section(4, 1, 112, 1, 2, 1)), 21, 8);
    Kit.fault("LIMITS of a table, ahead of a memory", m(Kit.section(4, 1, 112, 1, 2, 1), Kit.section(5, 1, 1, 2, 1)), 21, 8);
    Kit.fault("65536 pages", m(Kit.section(5, 1, 1, 65536L, 65536L)));
    Kit.fault("65537 pages", m(Kit.section(5, 1, 0, 65537L)), 21, 8);
    Kit.fault("at most 65537 pages", m(Kit.section(5, 1, 1, 0, 65537L)), 21, 8);
    Kit.fault("two memories", m(Kit.section(5, 2, 0, 0, 0, 0)), 22, 8);
    byte[] memory = Kit.bytes(0, 0, 2, 0, 0);
    Kit.fault("two imported memories", m(Kit.section(2, 2, memory, memory)), 22, 8);
    Kit.fault("two imported memories and an empty row", m(Kit.section(2, 2, memory, memory), Kit.section(5, 0)), 22, 21);
    Kit.fault("an imported memory and another", m(Kit.section(2, 1, memory), Kit.section(5, 1, 0, 0)), 22, 16);
    byte[] f = Kit.bytes(types, Kit.section(3, 1, 0));
    byte[] tail = Kit.section(10, 1, 2, 0, 11);
    Kit.fault("one name twice", m(f, Kit.section(7, 2, "ab", 0, 0, "ab", 0, 0), tail), 23, 18);
    Kit.fault("other names", m(f, Kit.section(7, 3, "ab", 0, 0, "a", 0, 0, "ac", 0, 0), tail));
    for (int kind = 0; kind < 4; kind++) Kit.fault("an export of kind " + kind, m(Kit.section(7, 1, "a", kind, 0)), 24, 8);
    Kit.fault("24 ahead of 23", m(f, Kit.section(7, 2, "ab", 0, 0, "ab", 0, 1), tail), 24, 18);
    Kit.fault("23 of an earlier export", m(f, Kit.section(7, 3, "ab", 0, 0, "ab", 0, 0, "c", 0, 1), tail), 23, 18);
    Kit.fault("a start that is not there", m(f, Kit.section(8, 1), tail), 25, 18);
    Kit.fault("a great start", m(f, Kit.section(8, 255, 255, 255, 255, 15), tail), 25, 18);
    Kit.fault("a start", m(f, Kit.section(8, 0), tail));
    Kit.fault("a start with a parameter", m(Kit.section(1, 1, Kit.type(new int[] {127}, NO)), Kit.section(2, 1, 0, 0, 0, 0), Kit.section(8, 0)), 25, 22);
    Kit.fault("a start with a result", m(Kit.section(1, 1, Kit.type(NO, new int[] {127})), Kit.section(2, 1, 0, 0, 0, 0), Kit.section(8, 0)), 25, 22);
  }

  private static void constants() {
    byte[] types = Kit.section(1, 1, PLAIN);
    byte[] imports = Kit.section(2, 3, 0, 0, 0, 0, 0, 0, 3, 127, 0, 0, 0, 3, 127, 1);
    int base = 8 + types.length + imports.length;
    Object[][] wrong = {
      {"a value of another type", 27, 4, 66, 0, 11},
      {"no value", 27, 2, 11},
      {"two values", 27, 6, 65, 0, 65, 0, 11},
      {"a 1", 26, 2, 1, 65, 0, 11},
      {"a sum", 26, 6, 65, 0, 65, 0, 106, 11},
      {"a block", 26, 2, 2, 127, 65, 0, 11, 11},
      {"a global that is not there", 26, 2, 35, 9, 11},
      {"a global that changes", 26, 2, 35, 1, 11},
      {"an own global", 26, 2, 35, 2, 11},
      {"a function that is not there", 28, 2, 210, 1, 11},
      {"a function that is not there, and a 1", 26, 4, 210, 1, 1, 11},
      {"a function that is not there, and values", 28, 4, 65, 0, 210, 1, 210, 2, 11},
      {"a function", 27, 4, 210, 0, 11},
      {"none", 27, 4, 208, 112, 11}};
    for (Object[] w : wrong) {
      Object[] code = java.util.Arrays.copyOfRange(w, 3, w.length);
      Kit.fault("a global: " + w[0], m(types, imports, Kit.section(6, 1, 127, 0, Kit.bytes(code))), (int) w[1], base + 3 + (int) w[2]);
    }
    Kit.fault("an imported global", m(types, imports, Kit.section(6, 1, 127, 0, 35, 0, 11)));
    Kit.fault("all constants", m(types, imports, Kit.section(6, 6, 127, 0, 65, 1, 11, 126, 1, 66, 1, 11, 125, 0, 67, new int[4], 11,
      124, 0, 68, new int[8], 11, 112, 0, 210, 0, 11, 111, 0, 208, 111, 11)));
    byte[] table = Kit.section(4, 2, 112, 0, 1, 111, 0, 1);
    int at = base + table.length;
    Kit.fault("a function of an element", m(types, imports, table, Kit.section(9, 1, 1, 0, 2, 0, 1)), 28, at);
    Kit.fault("an active element's table", m(types, imports, table, Kit.section(9, 1, 2, 2, 65, 0, 11, 0, 0)), 28, at);
    Kit.fault("an active element's table's type", m(types, imports, table, Kit.section(9, 1, 2, 1, 65, 0, 11, 0, 0)), 28, at);
    Kit.fault("an active element of 111", m(types, imports, table, Kit.section(9, 1, 6, 1, 65, 0, 11, 111, 1, 208, 111, 11)));
    Kit.fault("an active element without tables", m(types, imports, Kit.section(9, 1, 0, 65, 0, 11, 0)), 28, base);
    Kit.fault("28 ahead of the place's 26", m(types, imports, table, Kit.section(9, 1, 0, 1, 11, 1, 9)), 28, at);
    Kit.fault("an element's place", m(types, imports, table, Kit.section(9, 1, 0, 66, 0, 11, 1, 0)), 27, at + 6);
    Kit.fault("an element's items", m(types, imports, table, Kit.section(9, 1, 4, 65, 0, 11, 2, 210, 0, 11, 208, 111, 11)), 27, at + 13);
    Kit.fault("an element's item that is not constant", m(types, imports, table, Kit.section(9, 1, 5, 112, 2, 210, 0, 11, 1, 11)), 26, at + 9);
    Kit.fault("an element's item of a function that is not there", m(types, imports, table, Kit.section(9, 1, 5, 112, 1, 210, 1, 11)), 28, at + 6);
    Kit.fault("elements in order", m(types, imports, table, Kit.section(9, 2, 4, 1, 11, 0, 1, 0, 1, 9)), 26, at + 4);
    Kit.fault("globals ahead of elements", m(types, imports, Kit.section(6, 1, 127, 0, 11), Kit.section(9, 1, 1, 0, 1, 9)), 27, base + 5);
    Kit.fault("a data's memory", m(types, Kit.section(11, 1, 0, 65, 0, 11, 0)), 28, 14);
    Kit.fault("a data's memory 1", m(types, Kit.section(5, 1, 0, 0), Kit.section(11, 1, 2, 1, 65, 0, 11, 0)), 28, 19);
    Kit.fault("a data's place", m(types, Kit.section(5, 1, 0, 0), Kit.section(11, 1, 0, 67, new int[4], 11, 0)), 27, 28);
    Kit.fault("passive data without memory", m(types, Kit.section(11, 1, 1, 0)));
    Kit.fault("elements ahead of data", m(types, Kit.section(9, 1, 0, 65, 0, 11, 0), Kit.section(11, 1, 0, 65, 0, 11, 0)), 28, 14);
    Kit.fault("data ahead of bodies", m(types, Kit.section(3, 1, 0), Kit.section(10, 1, Kit.body(26)), Kit.section(11, 1, 0, 65, 0, 11, 0)), 28, 25);
  }

  private static void names() {
    at("a label", 30, 1, 1, 12, 1);
    right("the function's label", 2, 64, 12, 1, 11);
    at("a label of 13", 30, 0, 13, 1);
    at("a label of 14's row", 30, 0, 14, 2, 0, 1, 0);
    at("the last label of 14", 30, 0, 14, 2, 0, 0, 1);
    at("a great label", 30, 0, 12, 255, 255, 255, 255, 15);
    at("a function", 30, 0, 16, 3);
    at("a type", 30, 0, 17, 3, 0);
    at("a table for 17", 30, 0, 17, 0, 2);
    at("a table for 17 of 111", 30, 0, 17, 0, 1);
    for (int op = 32; op <= 34; op++) at("a local for " + op, 30, 0, op, 6);
    at("a global", 30, 0, 35, 3);
    at("a global for 36", 30, 0, 36, 3);
    at("a global that can't change", 30, 0, 36, 0);
    at("an own global that can't change", 30, 0, 36, 2);
    right("a global that can change", 65, 0, 36, 1);
    for (int op = 37; op <= 38; op++) at("a table for " + op, 30, 0, op, 2);
    at("a block's type", 30, 0, 2, 3, 11);
    at("a loop's type", 30, 0, 3, 3, 11);
    at("30 ahead of 29", 30, 0, 4, 3, 11);
    int[] widths = {2, 3, 2, 3, 0, 0, 1, 1, 0, 0, 1, 1, 2, 2, 2, 3, 2, 3, 0, 1, 0, 1, 2};
    for (int op = 40; op <= 62; op++) {
      at("an alignment of " + op, 30, 1, 0, op, widths[op - 40] + 1, 0);
      at("a great alignment of " + op, 30, 1, 0, op, 160, 1, 0);
      right("the alignment of " + op, 0, op, widths[op - 40], 0, 0);
    }
    at("a function of 210", 30, 0, 210, 3);
    at("a function of 210 that is not declared", 30, 0, 210, 2);
    right("functions that are declared", 210, 0, 210, 1, 26, 26);
    at("a data for 8", 30, 0, 252, 8, 2, 0);
    at("a data for 9", 30, 0, 252, 9, 2);
    at("an element for 12", 30, 0, 252, 12, 2, 0);
    at("a table for 12", 30, 0, 252, 12, 0, 2);
    at("a table of another type for 12", 30, 0, 252, 12, 0, 1);
    at("an element for 13", 30, 0, 252, 13, 2);
    at("a table for 14", 30, 0, 252, 14, 2, 0);
    at("the other table for 14", 30, 0, 252, 14, 0, 2);
    at("tables of different types for 14", 30, 0, 252, 14, 0, 1);
    for (int k = 15; k <= 17; k++) at("a table for 252 " + k, 30, 0, 252, k, 2);
    byte[] head = Kit.bytes(Kit.section(1, 1, PLAIN), Kit.section(3, 1, 0), Kit.section(12, 1));
    for (int op = 40; op <= 64; op++) {
      byte[] c = op < 63 ? Kit.bytes(op, 0, 0) : Kit.bytes(op, 0);
      Kit.fault("the memory for " + op, m(head, Kit.section(10, 1, Kit.body(c)), Kit.section(11, 1, 1, 0)), 30, 26);
    }
    int[][] more = {{252, 8, 0, 0}, {252, 10, 0, 0}, {252, 11, 0}};
    for (int[] c : more) Kit.fault("the memory for 252 " + c[1], m(head, Kit.section(10, 1, Kit.body(c)), Kit.section(11, 1, 1, 0)), 30, 26);
  }

  private static void operands() {
    at("26 of nothing", 29, 0, 26);
    at("27 of different types", 29, 6, 65, 0, 66, 0, 65, 0, 27);
    at("27 of references", 29, 6, 208, 112, 208, 112, 65, 0, 27);
    right("28 of references", 208, 112, 208, 112, 65, 0, 28, 1, 112, 26);
    at("28 of another type", 29, 6, 208, 111, 208, 112, 65, 0, 28, 1, 112, 26);
    right("27 of all numbers", 32, 1, 32, 1, 65, 0, 27, 26, 32, 2, 32, 2, 65, 0, 27, 26, 32, 3, 32, 3, 65, 0, 27, 26);
    at("33 of another type", 29, 2, 66, 0, 33, 0);
    right("locals", 32, 0, 33, 0, 32, 1, 34, 1, 33, 1, 32, 4, 33, 4, 32, 5, 34, 5, 26);
    at("36 of another type", 29, 2, 66, 0, 36, 1);
    right("37, 38", 65, 0, 65, 0, 37, 0, 38, 0, 65, 0, 65, 0, 37, 1, 38, 1);
    at("38 of the other reference", 29, 4, 65, 0, 208, 111, 38, 0);
    at("38 without index", 29, 2, 208, 112, 38, 0);
    at("a store's value first", 29, 4, 66, 0, 65, 0, 54, 0, 0);
    right("a store", 65, 0, 66, 0, 55, 0, 0);
    at("209 of a number", 29, 2, 65, 0, 209);
    right("209 of references", 208, 112, 209, 26, 208, 111, 209, 26);
    at("two of three", 29, 4, 65, 0, 65, 0, 252, 10, 0, 0);
    right("252 8 to 17", 65, 0, 65, 0, 65, 0, 252, 8, 0, 0, 252, 9, 0, 65, 0, 65, 0, 65, 0, 252, 10, 0, 0, 65, 0, 65, 0, 65, 0, 252, 11, 0,
      65, 0, 65, 0, 65, 0, 252, 12, 0, 0, 252, 13, 1, 65, 0, 65, 0, 65, 0, 252, 14, 0, 0, 208, 112, 65, 0, 252, 15, 0, 26, 252, 16, 1, 26,
      65, 0, 208, 111, 65, 0, 252, 17, 1);
    at("252 15 the wrong way round", 29, 4, 65, 0, 208, 112, 252, 15, 0);
    at("16 without its parameter", 29, 0, 16, 0);
    right("16", 65, 0, 16, 0, 26, 16, 1);
    at("17: 127 first of all", 29, 4, 65, 0, 66, 0, 17, 1, 0);
    right("17", 65, 0, 65, 0, 17, 1, 0, 26);
    at("values that are left", 29, 2, 65, 0);
    at("64 of 126", 29, 2, 66, 0, 64, 0);
  }

  private static void dead() {
    right("whatever is wanted", 0, 106, 26, 26, 27, 26, 209, 26, 38, 0, 36, 1, 16, 0, 26);
    at("what is known is looked at", 29, 3, 0, 66, 0, 106);
    right("27 not known", 0, 65, 0, 27, 26);
    at("27 of a reference and not known", 29, 5, 0, 208, 112, 65, 0, 27);
    right("27 known by one", 0, 66, 0, 65, 0, 27, 33, 1);
    at("27 known by one, and another wanted", 29, 6, 0, 66, 0, 65, 0, 27, 33, 0);
    right("27 of none, wanted as anything", 0, 27, 33, 3);
    at("too many at the end", 29, 5, 0, 65, 0, 65, 0);
    right("a block in the dead is open", 0, 2, 127, 65, 0, 11, 26);
    at("a block in the dead takes what is below it no more", 29, 3, 0, 2, 64, 26, 11);
    right("5 opens again", 65, 0, 4, 127, 0, 5, 65, 1, 11, 26);
    at("5 opens again, and nothing is there", 29, 6, 65, 0, 4, 127, 0, 5, 11, 26);
    right("behind 12", 2, 127, 65, 0, 12, 0, 11, 26);
    right("behind 15", 15, 106, 26);
    right("13 puts what is known", 2, 127, 0, 13, 0, 33, 0, 65, 0, 11, 26);
    at("13 puts what is known, not another", 29, 5, 2, 127, 0, 13, 0, 33, 1, 65, 0, 11, 26);
    right("14 puts nothing", 2, 127, 0, 14, 1, 0, 0, 11, 26);
    right("14 takes what is not known for labels of two types", 2, 127, 2, 125, 0, 14, 2, 0, 1, 0, 11, 26, 65, 0, 11, 26);
    at("14 has its parts looked at", 29, 9, 2, 127, 2, 125, 0, 65, 0, 65, 0, 14, 2, 0, 1, 0, 11, 26, 65, 0, 11, 26);
  }

  private static void blocks() {
    right("types of blocks", 2, 64, 11, 2, 127, 65, 0, 11, 26, 2, 112, 208, 112, 11, 26, 2, 0, 11, 65, 0, 2, 1, 11, 26, 2, 2, 65, 0, 66, 0, 11, 26, 26);
    at("a block without its result", 29, 2, 2, 127, 11, 26);
    at("a block with more", 29, 6, 2, 127, 65, 0, 65, 0, 11, 26);
    at("a block of another type", 29, 4, 2, 126, 65, 0, 11, 26);
    at("a block without its parameter", 29, 0, 2, 1, 11, 26);
    at("a block can't take from below", 29, 4, 65, 0, 2, 64, 26, 11);
    at("4 without a condition", 29, 0, 4, 64, 11);
    at("4 without 5 and with a result", 29, 6, 65, 0, 4, 127, 65, 0, 11, 26);
    right("4 without 5, from 127 to 127", 65, 0, 65, 0, 4, 1, 11, 26);
    at("4 without 5, without its parameter", 29, 2, 65, 0, 4, 1, 11, 26);
    at("5 without the result", 29, 4, 65, 0, 4, 127, 5, 65, 0, 11, 26);
    right("5 puts the parameters", 65, 0, 65, 0, 4, 1, 26, 65, 1, 5, 11, 26);
    at("the condition comes first", 29, 4, 65, 0, 66, 0, 4, 1, 11, 26);
  }

  private static void branches() {
    at("12 without its value", 29, 2, 2, 127, 12, 0, 11, 26);
    right("12 with more below", 2, 127, 66, 0, 65, 0, 12, 0, 11, 26);
    right("12 to a loop takes its parameters", 65, 0, 3, 1, 12, 0, 11, 26);
    at("12 to a loop without its parameters", 29, 6, 65, 0, 3, 1, 33, 0, 12, 0, 11, 26);
    right("12 to a loop of 127 takes nothing", 3, 127, 12, 0, 11, 26);
    at("13 without a condition", 29, 2, 2, 64, 13, 0, 11);
    at("13: 127 first", 29, 6, 2, 127, 65, 0, 66, 0, 13, 0, 11, 26);
    at("14 with fewer", 29, 8, 2, 127, 2, 64, 65, 0, 65, 0, 14, 1, 1, 0, 11, 65, 0, 11, 26);
    at("14 with another type", 29, 8, 2, 127, 2, 126, 66, 0, 65, 0, 14, 1, 1, 0, 11, 26, 65, 0, 11, 26);
    right("14", 2, 127, 2, 127, 65, 0, 65, 0, 14, 2, 1, 0, 1, 11, 11, 26);
    Kit.fault("15 without its result", Kit.simple(new int[0], new int[] {127}, 15), 29, 8 + 7 + 4 + 6 + 5 + 15 + 2 + 1 + 1 + 1);
  }

  private static final String KINDS = "ilfd";

  /** Each operator takes just what its signature says, and puts that. */
  private static void operators() {
    for (int op = 69; op <= 1007; op++) {
      if (op == 197) op = 1000;
      String s = Reference.Ops.signature(op);
      byte[] code = op < 1000 ? Kit.bytes(op) : Kit.bytes(252, op - 1000);
      byte[] in = {};
      for (int i = 0; i < s.length() - 1; i++) in = Kit.bytes(in, 32, KINDS.indexOf(s.charAt(i)));
      right("operator " + op, in, code, 33, KINDS.indexOf(s.charAt(s.length() - 1)));
      at("result of operator " + op, 29, in.length + code.length, in, code, 33, (KINDS.indexOf(s.charAt(s.length() - 1)) + 1) % 4);
      at("one operand too few for " + op, 29, in.length - 2, java.util.Arrays.copyOf(in, in.length - 2), code, 26);
      byte[] other = in.clone();
      other[in.length - 1] = (byte) ((other[in.length - 1] + 1) % 4);
      at("another operand for " + op, 29, in.length, other, code, 26);
    }
  }

  /** What a frame asks for shows in how often a function can call itself: 4096 / (locals + most operands), at most 200. */
  private static void mostOperands() {
    frames("nothing", 200, Kit.bytes(0), 16, 0);
    frames("100 locals", 40, Kit.bytes(1, 100, 127), 16, 0);
    frames("99 locals and an operand", 40, Kit.bytes(1, 99, 127), 65, 0, 26, 16, 0);
    frames("100 operands", 40, Kit.bytes(0), Kit.times(100, 65, 0), Kit.times(100, 26), 16, 0);
    frames("102 values", 40, Kit.bytes(1, 102L, 127), 16, 0);
    frames("103 values", 39, Kit.bytes(1, 103L, 127), 16, 0);
    frames("operands in the dead", 40, Kit.bytes(0), 16, 0, 0, Kit.times(100, 65, 0), 0);
    frames("what the dead takes", 200, Kit.bytes(0), 16, 0, 0, 106, 106, 106, 26);
    frames("results of a block in the dead", 4096 / 21, Kit.bytes(1, 20, 127), 16, 0, 0, 2, 127, 0, 11, 26);
  }

  private static void frames(String what, int want, byte[] locals, Object... code) {
    for (int tier = 0; tier < 2; tier++) {
      ModuleEngine e = Kit.engine(Kit.simpleWith(NO, NO, locals, code));
      e.tier(tier);
      e.call(0, 0);
      int most = 0;
      for (int i = 0; i < 100000 && e.state(0) == 1; i++) {
        most = Math.max(most, e.state(3));
        e.run(1);
      }
      Kit.due(what + ": state", e.state(0), 4);
      Kit.due(what + ": frames", most, want);
      Kit.due(what + ": frames then", e.state(3), 0);
    }
  }
}
