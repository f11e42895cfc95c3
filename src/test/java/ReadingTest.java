/** Promises 2, 3 and 4 with Part I: bytes that are a module, and the faults 1 to 14 at their places. */
public final class ReadingTest {
  private static final byte[] HEAD = Kit.module();

  public static void main(String[] args) {
    head();
    sections();
    numbers();
    names();
    choices();
    types();
    instructions();
    bodies();
    segments();
    Kit.finish();
  }

  /** The head, and then these bytes. */
  private static byte[] m(Object... rest) { return Kit.module(rest); }

  private static byte[] cut(byte[] m, int n) { return java.util.Arrays.copyOf(m, n); }

  /** A module with one body of these bytes, which begin at place 22 (their size at 21). */
  private static byte[] code(Object... content) {
    byte[] c = Kit.bytes(content);
    return m(1, 4, 1, 96, 0, 0, 3, 2, 1, 0, 10, c.length + 2, 1, c.length, c);
  }

  /** Where the body's bytes of code() begin. */
  private static final int AT = 22;

  private static void head() {
    Kit.fault("nothing but the head", HEAD);
    for (int n = 0; n < 8; n++) Kit.fault("the head's first " + n, cut(HEAD, n), 1, n);
    for (int i = 0; i < 8; i++) {
      byte[] b = HEAD.clone();
      b[i] ^= 1;
      Kit.fault("byte " + i + " of the head", b, 5, i);
      Kit.fault("byte " + i + " of the head, and no more", cut(b, i + 1), 5, i);
    }
  }

  private static void sections() {
    Kit.fault("id 13", m(13, 0), 6, 8);
    Kit.fault("id 255, and no more", m(255), 6, 8);
    Kit.fault("a section without its size", m(1), 1, 9);
    Kit.fault("a section larger than the module", m(1, 2, 0), 2, 9);
    Kit.fault("a section much larger", m(1, 255, 255, 255, 255, 15, 0), 2, 9);
    Kit.fault("a section that its row does not fill", m(1, 2, 0, 0), 3, 11);
    Kit.fault("a row that ends too soon", m(1, 1, 1), 1, 11);
    Kit.fault("twice", m(1, 1, 0, 1, 1, 0), 6, 11);
    Kit.fault("too late", m(2, 1, 0, 1, 1, 0), 6, 11);
    Kit.fault("12 ahead of 10", m(12, 1, 0, 10, 1, 0));
    Kit.fault("12 behind 10", m(10, 1, 0, 12, 1, 0), 6, 11);
    Kit.fault("12 behind 11", m(11, 1, 0, 12, 1, 0), 6, 11);
    Kit.fault("9 behind 12", m(12, 1, 0, 9, 1, 0), 6, 11);
    Kit.fault("10 behind 11", m(11, 1, 0, 10, 1, 0), 6, 11);
    Kit.fault("all in order", m(1, 1, 0, 2, 1, 0, 3, 1, 0, 4, 1, 0, 5, 1, 0, 6, 1, 0, 7, 1, 0, 9, 1, 0, 12, 1, 0, 10, 1, 0, 11, 1, 0));
    Kit.fault("0 at any time", m(0, 2, 1, 65, 1, 1, 0, 0, 1, 0, 3, 1, 0, 0, 3, 1, 66, 9));
    Kit.fault("0 without a name", m(0, 0), 1, 10);
    Kit.fault("0 with a name that is too long", m(0, 3, 3, 65, 66, 0, 1, 0), 1, 13);
    Kit.fault("a section of no bytes", m(3, 0), 1, 10);
    Kit.fault("8 with more", m(8, 2, 0, 0), 3, 11);
    Kit.fault("no bodies", m(1, 4, 1, 96, 0, 0, 3, 2, 1, 0), 13, 18);
    Kit.fault("bodies without functions", m(10, 4, 1, 2, 0, 11), 13, 14);
    Kit.fault("fewer data than said", m(12, 1, 1), 14, 11);
    Kit.fault("more data than said", m(12, 1, 0, 11, 3, 1, 1, 0), 14, 16);
    Kit.fault("bodies ahead of data", m(1, 4, 1, 96, 0, 0, 3, 2, 1, 0, 12, 1, 1), 13, 21);
    Kit.fault("data that nobody counted", m(11, 3, 1, 1, 0));
  }

  private static void numbers() {
    Kit.fault("U32 in five bytes", m(3, 5, 128, 128, 128, 128, 0));
    Kit.fault("U32 with 16 in the fifth", m(3, 5, 128, 128, 128, 128, 16), 4, 14);
    Kit.fault("U32 with a sixth", m(3, 6, 128, 128, 128, 128, 128, 0), 4, 14);
    Kit.fault("U32 that is cut off", m(3, 2, 128, 128), 1, 12);
    Kit.fault("a size in five bytes", m(3, 129, 128, 128, 128, 0, 0));
    Kit.fault("a size with 31 in the fifth", m(3, 129, 128, 128, 128, 31, 0), 4, 13);
    Kit.fault("S32 in five bytes", code(0, 65, 128, 128, 128, 128, 120, 26, 11));
    Kit.fault("S32 above", code(0, 65, 128, 128, 128, 128, 8, 26, 11), 4, AT + 6);
    Kit.fault("S32 greatest", code(0, 65, 255, 255, 255, 255, 7, 26, 11));
    Kit.fault("S32 below", code(0, 65, 128, 128, 128, 128, 119, 26, 11), 4, AT + 6);
    Kit.fault("S32 with a sixth", code(0, 65, 128, 128, 128, 128, 128, 0, 26, 11), 4, AT + 6);
    Kit.fault("S64 in ten bytes", code(0, 66, 128, 128, 128, 128, 128, 128, 128, 128, 128, 127, 26, 11));
    Kit.fault("S64 with 1 in the tenth", code(0, 66, 128, 128, 128, 128, 128, 128, 128, 128, 128, 1, 26, 11), 4, AT + 11);
    Kit.fault("S64 with 126 in the tenth", code(0, 66, 128, 128, 128, 128, 128, 128, 128, 128, 128, 126, 26, 11), 4, AT + 11);
    Kit.fault("S64 with an eleventh", code(0, 66, 128, 128, 128, 128, 128, 128, 128, 128, 128, 255, 26, 11), 4, AT + 11);
    Kit.fault("S33 in five bytes", code(0, 2, 128, 128, 128, 128, 0, 11, 11));
    Kit.fault("S33 of 2 ^ 32 - 1", code(0, 2, 255, 255, 255, 255, 15, 11, 11), 30, AT + 1);
    Kit.fault("S33 of 2 ^ 32", code(0, 2, 128, 128, 128, 128, 16, 11, 11), 4, AT + 6);
    Kit.fault("S33 below zero in five", code(0, 2, 128, 128, 128, 128, 112, 11, 11), 8, AT + 2);
    Kit.fault("S33 with other bits above", code(0, 2, 128, 128, 128, 128, 80, 11, 11), 4, AT + 6);
    Kit.fault("bytes of 67 that are cut off", code(0, 67, 1, 2, 3), 1, AT + 5);
    Kit.fault("bytes of 68 that are cut off", code(0, 68, 1, 2, 3, 4, 5, 6, 7), 1, AT + 9);
  }

  private static byte[] named(int... name) { return m(0, name.length + 1, name.length, name); }

  private static void names() {
    Kit.fault("one byte each", named(0, 65, 127));
    Kit.fault("two", named(194, 128, 223, 191));
    Kit.fault("three", named(224, 160, 128, 237, 159, 191, 238, 128, 128, 239, 191, 191));
    Kit.fault("four", named(240, 144, 128, 128, 244, 143, 191, 191));
    Kit.fault("128 alone", named(65, 128), 9, 12);
    Kit.fault("191 alone", named(191), 9, 11);
    Kit.fault("below 128 in two", named(65, 193, 191), 9, 12);
    Kit.fault("below 2048 in three", named(224, 159, 191), 9, 11);
    Kit.fault("55296", named(66, 237, 160, 128), 9, 12);
    Kit.fault("57343", named(237, 191, 191), 9, 11);
    Kit.fault("below 65536 in four", named(240, 143, 191, 191), 9, 11);
    Kit.fault("1114112", named(244, 144, 128, 128), 9, 11);
    Kit.fault("248", named(248, 136, 128, 128, 128), 9, 11);
    Kit.fault("255", named(255), 9, 11);
    Kit.fault("no second one", named(65, 195), 9, 12);
    Kit.fault("a second one that is none", named(195, 65), 9, 11);
    Kit.fault("a third one above", named(224, 160, 192), 9, 11);
    Kit.fault("cut off by the name, not by the section", m(0, 4, 2, 65, 226, 130), 9, 12);
    Kit.fault("the bytes first", m(0, 3, 3, 255, 65), 1, 13);
    Kit.fault("an import's second name", m(2, 6, 1, 1, 65, 1, 200, 0), 9, 14);
    Kit.fault("an export's name", m(7, 5, 1, 1, 128, 0, 0), 9, 12);
  }

  private static void choices() {
    Kit.fault("an import of kind 4", m(2, 5, 1, 0, 0, 4, 0), 7, 13);
    Kit.fault("LIMITS 2", m(5, 3, 1, 2, 0), 7, 11);
    Kit.fault("LIMITS of a table", m(4, 4, 1, 112, 5, 0), 7, 12);
    Kit.fault("a global that can 2", m(6, 6, 1, 127, 2, 65, 0, 11), 7, 12);
    Kit.fault("an export of kind 4", m(7, 4, 1, 0, 4, 0), 7, 12);
    Kit.fault("m of 8 in elements", m(9, 2, 1, 8), 7, 11);
    Kit.fault("m of 128 in two bytes", m(9, 3, 1, 128, 1), 7, 11);
    Kit.fault("m of 1 in two bytes", m(9, 5, 1, 129, 0, 0, 0));
    Kit.fault("the 0 of an element", m(9, 4, 1, 1, 1, 0), 7, 12);
    Kit.fault("m of 3 in data", m(11, 3, 1, 3, 0), 7, 11);
    Kit.fault("m of 3 in two bytes", m(11, 4, 1, 131, 0, 0), 7, 11);
    Kit.fault("63 without 0", code(0, 63, 1, 26, 11), 7, AT + 2);
    Kit.fault("64 without 0", code(0, 65, 0, 64, 2, 26, 11), 7, AT + 4);
    Kit.fault("252 10, its first 0", code(0, 252, 10, 1, 0, 11), 7, AT + 3);
    Kit.fault("252 10, its second 0", code(0, 252, 10, 0, 1, 11), 7, AT + 4);
    Kit.fault("252 11", code(0, 252, 11, 7, 11), 7, AT + 3);
    byte[] init = m(1, 4, 1, 96, 0, 0, 3, 2, 1, 0, 12, 1, 0, 10, 8, 1, 6, 0, 252, 8, 0, 3, 11);
    Kit.fault("252 8", init, 7, 29);
  }

  private static void types() {
    Kit.fault("95 for 96", m(1, 4, 1, 95, 0, 0), 8, 11);
    Kit.fault("64 as a parameter", m(1, 5, 1, 96, 1, 64, 0), 8, 13);
    Kit.fault("123 as a result", m(1, 5, 1, 96, 0, 1, 123), 8, 14);
    Kit.fault("all types", m(1, 10, 1, 96, 6, 127, 126, 125, 124, 112, 111, 0));
    Kit.fault("a table of 127", m(4, 4, 1, 127, 0, 0), 8, 11);
    Kit.fault("a table of 111", m(4, 4, 1, 111, 0, 0));
    Kit.fault("a global of 96", m(6, 6, 1, 96, 0, 65, 0, 11), 8, 11);
    Kit.fault("a local of 64", code(1, 1, 64, 11), 8, AT + 2);
    Kit.fault("208 of 127", code(0, 208, 127, 26, 11), 8, AT + 2);
    Kit.fault("28 of 110", code(0, 28, 1, 110, 11), 8, AT + 3);
    Kit.fault("a block of 123", code(0, 2, 123, 11, 11), 8, AT + 2);
    Kit.fault("a block of 65", code(0, 2, 65, 11, 11), 8, AT + 2);
    Kit.fault("a block of -64 in two bytes", code(0, 2, 192, 127, 11, 11), 8, AT + 2);
    Kit.fault("a block whose type is cut off", code(0, 2), 1, AT + 2);
    Kit.fault("an element of 127", m(9, 5, 1, 5, 127, 0), 2, 9);
    Kit.fault("an element of 127 that fits", m(9, 4, 1, 5, 127, 0), 8, 12);
  }

  private static void instructions() {
    for (int op = 0; op < 256; op++) {
      boolean none = op >= 6 && op <= 10 || op >= 18 && op <= 25 || op >= 29 && op <= 31 || op == 39
        || op >= 197 && op <= 207 || op >= 211 && op <= 251 || op >= 253;
      if (none) Kit.fault("instruction " + op, code(0, 1, op, 11), 10, AT + 2);
    }
    Kit.fault("252 18", code(0, 252, 18, 11), 10, AT + 1);
    Kit.fault("252 17 in two bytes", code(0, 0, 252, 145, 0, 0, 11), 30, AT + 2);
    Kit.fault("252 with a k that is no number", code(0, 252, 255, 255, 255, 255, 31, 11), 4, AT + 6);
    Kit.fault("252 with a great k", code(0, 252, 255, 255, 255, 255, 15, 11), 10, AT + 1);
    Kit.fault("252 cut off", code(0, 252), 1, AT + 2);
    Kit.fault("5 in a body", code(0, 5, 11), 10, AT + 1);
    Kit.fault("5 in a 2", code(0, 2, 64, 5, 11, 11), 10, AT + 3);
    Kit.fault("5 in a 3", code(0, 3, 64, 5, 11, 11), 10, AT + 3);
    Kit.fault("5 in a 4", code(0, 65, 0, 4, 64, 5, 11, 11));
    Kit.fault("5 twice", code(0, 65, 0, 4, 64, 5, 5, 11, 11), 10, AT + 6);
    Kit.fault("5 in a 2 in a 4", code(0, 65, 0, 4, 64, 2, 64, 5, 11, 11, 11), 10, AT + 7);
    Kit.fault("5 behind a 2 in a 4", code(0, 65, 0, 4, 64, 2, 64, 11, 5, 11, 11));
    Kit.fault("5 of the outer 4", code(0, 65, 0, 4, 64, 65, 0, 4, 64, 5, 11, 5, 11, 11));
    Kit.fault("252 9 without section 12", code(0, 252, 9, 0, 11), 11, AT + 1);
    Kit.fault("252 8 without section 12, cut off", code(0, 252, 8), 11, AT + 1);
    Kit.fault("252 9 in a global, ahead of section 12", m(6, 7, 1, 127, 0, 252, 9, 0, 11, 12, 1, 0), 11, 13);
    Kit.fault("252 9 in data, behind section 12", m(12, 1, 1, 11, 7, 1, 0, 252, 9, 0, 11, 0), 28, 11);
    Kit.fault("an expression without END", code(0, 1, 1), 1, AT + 3);
    Kit.fault("a block without END", code(0, 2, 64, 11), 1, AT + 4);
    Kit.fault("14, cut off in its row", code(0, 14, 3, 0, 0), 1, AT + 5);
    Kit.fault("14 without its last one", code(0, 14, 1, 0), 1, AT + 4);
    Kit.fault("deep blocks", deep(250), 40, AT + 2 + 1 + 199 * 2);
    Kit.fault("very deep blocks", deep(3000), 40, AT + 2 + 1 + 199 * 2);
  }

  /** Blocks in blocks, in a body whose size has two bytes, as its section's has. */
  private static byte[] deep(int n) {
    byte[] c = Kit.bytes(0, Kit.times(n, 2, 64), Kit.times(n, 11), 11);
    byte[] row = Kit.bytes(1, (long) c.length, c);
    return m(1, 4, 1, 96, 0, 0, 3, 2, 1, 0, 10, (long) row.length, row);
  }

  private static void bodies() {
    Kit.fault("a body larger than its section", m(1, 4, 1, 96, 0, 0, 3, 2, 1, 0, 10, 4, 1, 3, 0, 11), 2, 21);
    Kit.fault("a body larger than its section, not than the module", m(1, 4, 1, 96, 0, 0, 3, 2, 1, 0, 10, 4, 1, 5, 0, 11, 11, 2, 1, 0), 2, 21);
    Kit.fault("bytes behind a body's END", code(0, 11, 1), 3, AT + 2);
    Kit.fault("a body of nothing", code(), 1, AT);
    Kit.fault("locals of all types", code(6, 1, 127, 1, 126, 1, 125, 1, 124, 1, 112, 1, 111, 11));
    Kit.fault("2 ^ 32 locals", code(2, 255, 255, 255, 255, 15, 127, 1, 127, 11), 12, AT);
    Kit.fault("2 ^ 32 locals, and then no instruction", code(2, 255, 255, 255, 255, 15, 127, 1, 127, 255), 12, AT);
    Kit.fault("2 ^ 32 locals, and then no type", code(3, 255, 255, 255, 255, 15, 127, 1, 127, 1, 1, 11), 8, AT + 10);
    Kit.fault("2 ^ 32 - 1 locals", code(1, 255, 255, 255, 255, 15, 127, 11), 40, 18);
    Kit.fault("locals cut off", code(1, 1), 1, AT + 2);
  }

  private static void segments() {
    Object[] head = {1, 4, 1, 96, 0, 0, 3, 2, 1, 0, 4, 4, 1, 112, 0, 9};
    byte[] h = Kit.bytes(head);
    byte[] tail = {10, 4, 1, 2, 0, 11};
    Kit.fault("elements 0 to 7", m(h, Kit.section(9, 8,
      0, 65, 0, 11, 1, 0,
      1, 0, 1, 0,
      2, 0, 65, 0, 11, 0, 1, 0,
      3, 0, 1, 0,
      4, 65, 0, 11, 1, 210, 0, 11,
      5, 112, 1, 208, 112, 11,
      6, 0, 65, 0, 11, 112, 1, 208, 112, 11,
      7, 111, 1, 208, 111, 11), tail));
    Kit.fault("a row of functions cut off", m(9, 4, 1, 1, 0, 2), 1, 14);
    Kit.fault("a row of expressions cut off", m(9, 5, 1, 5, 112, 1, 208), 1, 15);
    Kit.fault("data 0 to 2", m(5, 3, 1, 0, 1, Kit.section(11, 3, 0, 65, 0, 11, 2, 1, 2, 1, 1, 9, 2, 0, 65, 0, 11, 0)));
    Kit.fault("a row of bytes cut off", m(11, 4, 1, 1, 5, 1), 1, 14);
    Kit.fault("a row of very many bytes", m(11, 8, 1, 1, 255, 255, 255, 255, 15, 1), 1, 18);
  }
}
