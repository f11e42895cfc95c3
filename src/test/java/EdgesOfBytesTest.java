import java.nio.ByteBuffer;
import java.nio.charset.CharacterCodingException;
import java.nio.charset.StandardCharsets;

/**
 * Part I, sentence by sentence, where it names an edge: each byte that may stand in a place and each that may not, numbers
 * and names at their bounds, parts that end too soon or are not filled, and the faults 1 to 14 with their places.
 */
public final class EdgesOfBytesTest {
  public static void main(String[] args) {
    lastByteOfU32();
    lastByteOfS32();
    lastByteOfS33();
    lastByteOfS64();
    lengthsOfNumbers();
    signOfNumbers();
    charactersOfNames();
    lengthOfNames();
    functionTypeByte();
    typeBytes();
    limitsByte();
    choiceBytes();
    elementForms();
    dataForms();
    headBytes();
    orderOfSections();
    idsOfSections();
    sizesOfSections();
    contentOfSections();
    cutModules();
    sizesOfBodies();
    localsOfBodies();
    elseOnce();
    blockTypeBytes();
    formsOfInstructions();
    formsBehind252();
    zerosOfInstructions();
    dataCountAhead();
    asManyBodies();
    asManyData();
    modulesOneByOne();
    Kit.finish();
  }

  private static byte[] m(Object... rest) { return Kit.module(rest); }

  /** A module with one body of these bytes, which begin at AT (their size at AT - 1). */
  private static byte[] code(Object... content) {
    byte[] c = Kit.bytes(content);
    return m(1, 4, 1, 96, 0, 0, 3, 2, 1, 0, 10, c.length + 2, 1, c.length, c);
  }

  private static final int AT = 22;

  /** The fifth one is at most 15, and none follows. */
  private static void lastByteOfU32() {
    for (int b = 0; b < 256; b++) {
      String what = "a U32 whose fifth byte is " + b;
      if (b > 15) Kit.fault(what, m(8, 5, 255, 255, 255, 255, b), 4, 14);
      else Kit.fault(what, m(8, 5, 255, 255, 255, 255, b), 25, 8);
    }
  }

  /** In the fifth byte the bits above the 32 are all like its highest one. */
  private static void lastByteOfS32() {
    for (int b = 0; b < 256; b++) {
      boolean right = b <= 7 || b >= 120 && b <= 127;
      Kit.fault("an S32 whose fifth byte is " + b, code(0, 65, 128, 128, 128, 128, b, 26, 11), right ? 0 : 4, AT + 6);
    }
  }

  /** Likewise, of 33 bits; below 0 it is no block type. */
  private static void lastByteOfS33() {
    for (int b = 0; b < 256; b++) {
      String what = "an S33 whose fifth byte is " + b;
      byte[] module = code(0, 2, 129, 128, 128, 128, b, 11, 11);
      if (b <= 15) Kit.fault(what, module, 30, AT + 1);
      else if (b >= 112 && b <= 127) Kit.fault(what, module, 8, AT + 2);
      else Kit.fault(what, module, 4, AT + 6);
    }
  }

  /** Likewise, of 64 bits, in the tenth byte. */
  private static void lastByteOfS64() {
    for (int b = 0; b < 256; b++) {
      byte[] module = code(0, 66, 128, 128, 128, 128, 128, 128, 128, 128, 128, b, 26, 11);
      Kit.fault("an S64 whose tenth byte is " + b, module, b == 0 || b == 127 ? 0 : 4, AT + 11);
    }
  }

  private static byte[] stretched(int bytes, int last) { return Kit.bytes(Kit.times(bytes - 1, 128), last); }

  /** Up to five bytes; 128 in a byte tells that another one follows. */
  private static void lengthsOfNumbers() {
    for (int n = 1; n <= 5; n++) {
      Kit.fault("a U32 of " + n + " bytes", m(3, n, stretched(n, 0)));
      Kit.fault("a U32 of " + n + " bytes, cut off", m(3, n, Kit.times(n, 128)), n == 5 ? 4 : 1, n == 5 ? 14 : 10 + n);
      Kit.fault("an S32 of " + n + " bytes", code(0, 65, stretched(n, 0), 26, 11));
      Kit.fault("an S33 of " + n + " bytes", code(0, 2, stretched(n, 0), 11, 11));
    }
    for (int n = 1; n <= 10; n++) Kit.fault("an S64 of " + n + " bytes", code(0, 66, stretched(n, 0), 26, 11));
    Kit.fault("a U32 of one byte, 127", m(0, 127, 126, Kit.times(126, 65)));
    Kit.fault("a U32 of two bytes, 128", m(0, 128, 1, 127, Kit.times(127, 65)));
    Kit.fault("a U32 of two bytes, 16383", m(0, 255, 127, 0, Kit.times(16382, 65)));
    Kit.fault("a U32 of three bytes, 16384", m(0, 128, 128, 1, 0, Kit.times(16383, 65)));
  }

  /** The highest bit that is read of the last byte counts negative. */
  private static void signOfNumbers() {
    for (int i = 0; i < 64; i++) {
      for (long v : new long[] {1L << i, (1L << i) - 1, -1L << i, (-1L << i) - 1}) {
        Kit.result("66 of " + v, new int[] {126}, Kit.bytes(66, Kit.signed(v)), v, 1);
        if (v == (int) v) Kit.result("65 of " + v, new int[] {127}, Kit.bytes(65, Kit.signed(v)), v & 0xffffffffL, 1);
      }
    }
    Kit.result("65 with more bytes than it needs", new int[] {127}, Kit.bytes(65, 255, 255, 255, 255, 127), 0xffffffffL, 1);
    Kit.result("66 with more bytes than it needs", new int[] {126}, Kit.bytes(66, Kit.times(9, 255), 127), -1, 1);
    Kit.result("67, the lowest first", new int[] {125}, Kit.bytes(67, 1, 2, 3, 132), 0x84030201L, 1);
    Kit.result("68, the lowest first", new int[] {124}, Kit.bytes(68, 1, 2, 3, 4, 5, 6, 7, 136), 0x8807060504030201L, 1);
  }

  /** Where the first character that is none begins, by Java's own decoder; -1 when all are right. */
  private static int firstWrong(byte[] name) {
    for (int at = 0; at < name.length;) {
      int size = 0;
      for (int n = 1; n <= 4 && at + n <= name.length && size == 0; n++) {
        try {
          String s = StandardCharsets.UTF_8.newDecoder().decode(ByteBuffer.wrap(name, at, n)).toString();
          if (s.codePointCount(0, s.length()) == 1) size = n;
        } catch (CharacterCodingException none) {
          size = 0;
        }
      }
      if (size == 0) return at;
      at += size;
    }
    return -1;
  }

  private static void named(int... name) {
    byte[] bytes = Kit.bytes(name);
    int wrong = firstWrong(bytes);
    Kit.fault("a name of " + java.util.Arrays.toString(name), m(0, name.length + 1, name.length, bytes), wrong < 0 ? 0 : 9, 11 + wrong);
  }

  /** Characters in one to four bytes each: 0 .. 127, from 128 on, from 2048 on but not 55296 .. 57343, from 65536 to 1114111. */
  private static void charactersOfNames() {
    int[] edges = {0, 127, 128, 2047, 2048, 4095, 4096, 55295, 57344, 65535, 65536, 131071, 1048575, 1048576, 1114111};
    for (int c : edges) Kit.due("the bytes of " + c, firstWrong(new String(Character.toChars(c)).getBytes(StandardCharsets.UTF_8)), -1);
    for (int c : edges) {
      byte[] name = new String(Character.toChars(c)).getBytes(StandardCharsets.UTF_8);
      Kit.fault("the character " + c, m(0, name.length + 3, name.length + 2, 65, name, 66));
    }
    int[] second = {0, 127, 128, 143, 144, 159, 160, 191, 192, 255};
    for (int lead = 0; lead < 256; lead++) {
      named(lead);
      named(65, lead);
      for (int b : second) {
        named(lead, b);
        named(lead, b, 128);
        named(lead, b, 191, 191);
      }
    }
    for (int lead : new int[] {224, 225, 236, 237, 238, 239, 240, 241, 243, 244}) {
      for (int third : new int[] {0, 127, 128, 191, 192, 255}) {
        named(lead, 160, third);
        named(lead, 144, third, 128);
        named(lead, 144, 128, third);
      }
    }
  }

  /** A NAME is a row of bytes; its bytes are read first; the place of a character that is not as said is where it begins. */
  private static void lengthOfNames() {
    Kit.fault("a name of nothing", m(0, 1, 0));
    Kit.fault("a character that goes on behind its name", m(0, 3, 1, 195, 128), 9, 11);
    Kit.fault("of three bytes, with one behind its name", m(0, 4, 2, 226, 130, 172), 9, 11);
    Kit.fault("of four bytes, with one behind its name", m(0, 6, 4, 65, 240, 144, 128, 128), 9, 12);
    Kit.fault("two wrong ones", m(0, 4, 3, 65, 200, 255), 9, 12);
    Kit.fault("one byte more than the section has", m(0, 3, 3, 65, 255), 1, 13);
    Kit.fault("the greatest length", m(0, 6, 255, 255, 255, 255, 15, 255), 1, 16);
    Kit.fault("an import's first name", m(2, 6, 1, 1, 255, 0, 3, 127), 9, 12);
    Kit.fault("an import's second name", m(2, 7, 1, 1, 65, 1, 255, 3, 127), 9, 14);
    Kit.fault("an export's name", m(7, 5, 1, 1, 255, 9, 0), 9, 12);
  }

  /** A FUNCTION TYPE: 96. */
  private static void functionTypeByte() {
    for (int b = 0; b < 256; b++) Kit.fault("a function type of " + b, m(1, 4, 1, b, 0, 0), b == 96 ? 0 : 8, 11);
  }

  private static boolean isValue(int b) { return b >= 124 && b <= 127 || isReference(b); }

  private static boolean isReference(int b) { return b == 111 || b == 112; }

  /** A REFERENCE TYPE is 112 or 111; a VALUE TYPE one of these, or 127, 126, 125, 124. */
  private static void typeBytes() {
    for (int b = 0; b < 256; b++) {
      int value = isValue(b) ? 0 : 8;
      int reference = isReference(b) ? 0 : 8;
      Kit.fault("a parameter of " + b, m(1, 5, 1, 96, 1, b, 0), value, 13);
      Kit.fault("a result of " + b, m(1, 5, 1, 96, 0, 1, b), value, 14);
      Kit.fault("an imported global of " + b, m(2, 6, 1, 0, 0, 3, b, 0), value, 14);
      Kit.fault("an imported table of " + b, m(2, 7, 1, 0, 0, 1, b, 0, 0), reference, 14);
      Kit.fault("a table of " + b, m(4, 4, 1, b, 0, 0), reference, 11);
      Kit.fault("a global of " + b, m(6, 5, 1, b, 0, 0, 11), value == 0 ? 26 : 8, value == 0 ? 13 : 11);
      Kit.fault("an element of " + b, m(9, 4, 1, 5, b, 0), reference, 12);
      Kit.fault("a local of " + b, code(1, 1, b, 11), value, AT + 2);
      Kit.fault("208 of " + b, code(0, 208, b, 26, 11), reference, AT + 2);
      Kit.fault("28 of " + b, code(0, 0, 28, 1, b, 26, 11), value, AT + 4);
    }
  }

  /** LIMITS: 0 and a U32, or 1 and two. */
  private static void limitsByte() {
    for (int b = 0; b < 256; b++) {
      byte[] limits = b == 1 ? Kit.bytes(1, 0, 0) : Kit.bytes(b, 0);
      Kit.fault("LIMITS of a table: " + b, m(Kit.section(4, 1, 112, limits)), b < 2 ? 0 : 7, 12);
      Kit.fault("LIMITS of a memory: " + b, m(Kit.section(5, 1, limits)), b < 2 ? 0 : 7, 11);
      Kit.fault("LIMITS of an imported table: " + b, m(Kit.section(2, 1, 0, 0, 1, 112, limits)), b < 2 ? 0 : 7, 15);
      Kit.fault("LIMITS of an imported memory: " + b, m(Kit.section(2, 1, 0, 0, 2, limits)), b < 2 ? 0 : 7, 14);
    }
    Kit.fault("0 and two", m(4, 5, 1, 112, 0, 0, 0), 3, 14);
    Kit.fault("1 and one", m(4, 4, 1, 112, 1, 0), 1, 14);
  }

  /** Other bytes that are one of a few: 7, where it begins. */
  private static void choiceBytes() {
    for (int b = 0; b < 256; b++) {
      Kit.fault("a global that can " + b, m(6, 6, 1, 127, b, 65, 0, 11), b < 2 ? 0 : 7, 12);
      Kit.fault("an imported global that can " + b, m(2, 6, 1, 0, 0, 3, 127, b), b < 2 ? 0 : 7, 15);
      Kit.fault("an export of kind " + b, m(7, 4, 1, 0, b, 0), b < 4 ? 24 : 7, b < 4 ? 8 : 12);
      Kit.fault("the 0 of an element: " + b, m(9, 4, 1, 1, b, 0), b == 0 ? 0 : 7, 12);
      Kit.fault("the 0 of a declared element: " + b, m(9, 4, 1, 3, b, 0), b == 0 ? 0 : 7, 12);
      Kit.fault("the 0 of an active element: " + b, m(4, 4, 1, 112, 0, 0, 9, 8, 1, 2, 0, 65, 0, 11, b, 0), b == 0 ? 0 : 7, 22);
      if (b > 3) Kit.fault("an import of kind " + b, m(2, 6, 1, 0, 0, b, 127, 0), 7, 13);
    }
    Kit.fault("an import of a function", m(2, 5, 1, 0, 0, 0, 0), 20, 8);
  }

  /** A U32 m from 0 to 7. */
  private static void elementForms() {
    byte[] place = {65, 0, 11};
    byte[][] rest = {Kit.bytes(place, 0), Kit.bytes(0, 0), Kit.bytes(0, place, 0, 0), Kit.bytes(0, 0),
      Kit.bytes(place, 0), Kit.bytes(112, 0), Kit.bytes(0, place, 112, 0), Kit.bytes(112, 0)};
    for (int f = 0; f < 8; f++) {
      for (int other = 0; other < 8; other++) {
        byte[] module = m(4, 4, 1, 112, 0, 0, Kit.section(9, 1, f, rest[other]));
        if (java.util.Arrays.equals(rest[f], rest[other])) Kit.fault("m of " + f, module);
      }
      Kit.fault("m of " + f + " in two bytes", m(4, 4, 1, 112, 0, 0, Kit.section(9, 1, f | 128, 0, rest[f])));
      Kit.fault("m of " + f + " and one byte more", m(4, 4, 1, 112, 0, 0, Kit.section(9, 1, f, rest[f], 0)), 3, 18 + rest[f].length);
      int cut = rest[f].length - 1;
      byte[] shorter = java.util.Arrays.copyOf(rest[f], cut);
      Kit.fault("m of " + f + " and one byte less", m(4, 4, 1, 112, 0, 0, Kit.section(9, 1, f, shorter)), 1, 18 + cut);
    }
    for (int f : new int[] {8, 9, 15, 16, 64, 127}) Kit.fault("m of " + f, m(9, 2, 1, f), 7, 11);
    Kit.fault("m of 8 in two bytes", m(9, 3, 1, 136, 0), 7, 11);
    Kit.fault("the greatest m", m(9, 6, 1, 255, 255, 255, 255, 15), 7, 11);
    Kit.fault("m that is no U32", m(9, 6, 1, 255, 255, 255, 255, 16), 4, 15);
  }

  /** A U32 m: 0, 1, 2. */
  private static void dataForms() {
    byte[] memory = {5, 3, 1, 0, 0};
    Kit.fault("m of 0", m(memory, Kit.section(11, 1, 0, 65, 0, 11, 0)));
    Kit.fault("m of 1", m(memory, Kit.section(11, 1, 1, 0)));
    Kit.fault("m of 2", m(memory, Kit.section(11, 1, 2, 0, 65, 0, 11, 0)));
    Kit.fault("m of 2 in two bytes", m(memory, Kit.section(11, 1, 130, 0, 0, 65, 0, 11, 0)));
    for (int f : new int[] {3, 4, 7, 127}) Kit.fault("m of " + f, m(memory, Kit.section(11, 1, f, 0)), 7, 16);
    Kit.fault("the greatest m", m(memory, Kit.section(11, 1, 255, 255, 255, 255, 15)), 7, 16);
    Kit.fault("bytes one too few", m(memory, Kit.section(11, 1, 1, 3, 7, 8)), 1, 20);
    Kit.fault("bytes just enough", m(memory, Kit.section(11, 1, 1, 3, 7, 8, 9)));
    Kit.fault("bytes one too many", m(memory, Kit.section(11, 1, 1, 3, 7, 8, 9, 10)), 3, 21);
  }

  /** A MODULE begins with 0 97 115 109 1 0 0 0: 5 the first that is not as said; 1 its bytes end. */
  private static void headBytes() {
    byte[] head = Kit.module();
    for (int i = 0; i < 8; i++) {
      Kit.fault("the first " + i, java.util.Arrays.copyOf(head, i), 1, i);
      for (int b = 0; b < 256; b++) {
        byte[] other = head.clone();
        other[i] = (byte) b;
        Kit.fault("byte " + i + " is " + b, other, other[i] == head[i] ? 0 : 5, i);
      }
    }
    Kit.fault("two wrong bytes", new byte[] {0, 97, 9, 109, 9, 0, 0, 0}, 5, 2);
  }

  /** The others at most once each, in this order: 1 to 9, 12, 10, 11. */
  private static void orderOfSections() {
    int[] order = {1, 2, 3, 4, 5, 6, 7, 8, 9, 12, 10, 11};
    for (int i = 0; i < order.length; i++) {
      for (int k = 0; k < order.length; k++) {
        boolean right = i < k;
        boolean start = order[i] == 8 || order[k] == 8;
        byte[] module = m(order[i], 1, 0, order[k], 1, 0);
        String what = order[k] + " behind " + order[i];
        if (!right) Kit.fault(what, module, 6, 11);
        else if (start) Kit.fault(what, module, 25, order[i] == 8 ? 8 : 11);
        else Kit.fault(what, module);
        byte[] parted = m(order[i], 1, 0, 0, 1, 0, order[k], 1, 0);
        if (!right) Kit.fault(what + ", with a 0 between", parted, 6, 14);
      }
      Kit.fault("0 ahead of " + order[i], m(0, 1, 0, 0, 1, 0, order[i], 1, 0), order[i] == 8 ? 25 : 0, 14);
      Kit.fault("0 behind " + order[i], m(order[i], 1, 0, 0, 1, 0, 0, 1, 0), order[i] == 8 ? 25 : 0, 8);
    }
  }

  /** 6 a section's id that is none: its place. */
  private static void idsOfSections() {
    for (int id = 13; id < 256; id++) {
      Kit.fault("id " + id, m(id, 1, 0), 6, 8);
      Kit.fault("id " + id + " at the end", m(1, 1, 0, id), 6, 11);
    }
    Kit.fault("an id that comes too late, with a size that is too large", m(2, 1, 0, 1, 99, 0), 6, 11);
  }

  /** 2 it would have more bytes than are left in the part that it is in: where its U32 begins. */
  private static void sizesOfSections() {
    Kit.fault("just as many as are left", m(0, 3, 0, 7, 7));
    Kit.fault("one more than are left", m(0, 4, 0, 7, 7), 2, 9);
    Kit.fault("one more, its size in two bytes", m(0, 132, 0, 0, 7, 7), 2, 9);
    Kit.fault("the greatest size", m(0, 255, 255, 255, 255, 15, 0), 2, 9);
    Kit.fault("one less than there are: the last is an id", m(0, 2, 0, 7, 7), 1, 13);
    Kit.fault("a size that is no number", m(0, 128, 128, 128, 128, 16, 0), 4, 13);
    Kit.fault("no size", m(0), 1, 9);
    Kit.fault("half a size", m(0, 128), 1, 10);
    Kit.fault("behind another", m(3, 1, 0, 4, 2, 0), 2, 12);
  }

  /** Just filled by: 1 its bytes end where one more is read; 3 it is filled, and bytes are left. */
  private static void contentOfSections() {
    Object[][] sections = {
      {1, 1, 96, 1, 127, 0}, {2, 1, 1, 65, 0, 3, 127, 0}, {3, 0}, {4, 1, 112, 1, 1, 2}, {5, 1, 1, 1, 2}, {6, 1, 127, 0, 65, 0, 11},
      {7, 0}, {8, 0}, {9, 1, 1, 0, 0}, {12, 0}, {10, 0}, {11, 1, 1, 2, 8, 9}};
    for (Object[] s : sections) {
      int id = (int) s[0];
      byte[] content = Kit.bytes(java.util.Arrays.copyOfRange(s, 1, s.length));
      byte[] filled = m(id, content.length, content, 0, 1, 0);
      Kit.fault("section " + id, filled, id == 8 ? 25 : 0, 8);
      Kit.fault("section " + id + " and one byte more", m(id, content.length + 1, content, 0, 0, 1, 0), 3, 10 + content.length);
      for (int n = 0; n < content.length; n++)
        Kit.fault("the first " + n + " of section " + id, m(id, n, java.util.Arrays.copyOf(content, n), 0, 1, 0), 1, 10 + n);
    }
    Kit.fault("section 0 has any bytes", m(0, 4, 1, 65, 255, 128));
    Kit.fault("section 0 without a name", m(0, 0, 0, 1, 0), 1, 10);
  }

  /** A module cut off anywhere: inside a section its size is too large; between its bytes they end. */
  private static void cutModules() {
    byte[][] parts = {Kit.section(1, 1, Kit.type(new int[] {127}, new int[] {127})), Kit.section(0, "abc", 1, 2, 3), Kit.section(3, 1, 0),
      Kit.section(4, 1, 112, 0, 5), Kit.section(6, 1, 127, 0, 65, 5, 11), Kit.section(7, 1, "f", 0, 0), Kit.section(12, 1),
      Kit.section(10, 1, Kit.body(32, 0)), Kit.section(11, 1, 1, 3, 7, 8, 9)};
    byte[] all = m((Object[]) parts);
    int start = 8;
    for (int p = 0; p < parts.length; p++) {
      for (int n = 0; n < parts[p].length; n++) {
        byte[] cut = java.util.Arrays.copyOf(all, start + n);
        String what = "cut at " + (start + n);
        if (n == 0) Kit.fault(what, cut, p < 3 ? 0 : p < 8 ? 13 : 14, start);
        else if (n == 1) Kit.fault(what, cut, 1, start + 1);
        else Kit.fault(what, cut, 2, start + 1);
      }
      start += parts[p].length;
    }
    Kit.fault("all of it", all);
  }

  /** A body: a U32, how many bytes it has, and these, just filled. */
  private static void sizesOfBodies() {
    byte[] head = {1, 4, 1, 96, 0, 0, 3, 3, 2, 0, 0};
    Kit.fault("two bodies", m(head, Kit.section(10, 2, 2, 0, 11, 3, 0, 1, 11)));
    Kit.fault("bytes left in the first, which the second could be", m(head, Kit.section(10, 2, 5, 0, 11, 2, 0, 11, 2, 0, 11)), 3, 25);
    Kit.fault("bytes left in the last", m(head, Kit.section(10, 2, 2, 0, 11, 3, 0, 11, 1)), 3, 28);
    Kit.fault("the first ends too soon", m(head, Kit.section(10, 2, 2, 0, 1, 11, 2, 0, 11)), 1, 25);
    Kit.fault("the first ends in its locals", m(head, Kit.section(10, 2, 1, 1, 1, 127, 11, 2, 0, 11)), 1, 24);
    Kit.fault("a body of nothing", m(head, Kit.section(10, 2, 0, 2, 0, 11)), 1, 23);
    Kit.fault("just as many as are left", m(head, Kit.section(10, 2, 2, 0, 11, 2, 0, 11)));
    Kit.fault("one more than are left in the section", m(head, Kit.section(10, 2, 2, 0, 11, 3, 0, 11), 0, 1, 0), 2, 25);
    Kit.fault("the greatest size", m(head, Kit.section(10, 2, 255, 255, 255, 255, 15, 0, 11)), 2, 22);
    Kit.fault("a size of five bytes", m(head, Kit.section(10, 2, 130, 128, 128, 128, 0, 0, 11, 2, 0, 11)));
    Kit.fault("a body behind the others", m(head, Kit.section(10, 2, 2, 0, 11, 2, 0, 11, 2, 0, 11)), 3, 28);
  }

  /** 12 more than 4294967295 locals: where the row's count begins (all of them are read first, the expression not yet). */
  private static void localsOfBodies() {
    int[] most = {255, 255, 255, 255, 15, 127};
    Kit.fault("4294967295", code(1, most, 11), 40, 18);
    Kit.fault("4294967295 and 0", code(2, most, 0, 126, 11), 40, 18);
    Kit.fault("4294967296", code(2, most, 1, 126, 11), 12, AT);
    Kit.fault("4294967296, the other way round", code(2, 1, 126, most, 11), 12, AT);
    Kit.fault("twice as many", code(2, most, most, 11), 12, AT);
    Kit.fault("very many", code(17, Kit.times(17, most), 11), 12, AT);
    Kit.fault("a count of two bytes", code(130, 0, most, 1, 126, 11), 12, AT);
    Kit.fault("a type that is none behind them", code(3, most, 1, 126, 1, 64, 11), 8, AT + 10);
    Kit.fault("they end behind them", code(3, most, 1, 126), 1, AT + 9);
    Kit.fault("an instruction that is none behind them", code(2, most, 1, 126, 255, 11), 12, AT);
    Kit.fault("and no expression", code(2, most, 1, 126), 12, AT);
  }

  /** In one that is begun by 4 there may be one 5, directly in it; 10 a 5 that may not be there. */
  private static void elseOnce() {
    Kit.fault("none", code(0, 65, 0, 4, 64, 11, 11));
    Kit.fault("one", code(0, 65, 0, 4, 64, 5, 11, 11));
    Kit.fault("two", code(0, 65, 0, 4, 64, 5, 5, 11, 11), 10, AT + 6);
    Kit.fault("two, with another 4 between", code(0, 65, 0, 4, 64, 5, 65, 0, 4, 64, 5, 11, 5, 11, 11), 10, AT + 12);
    Kit.fault("one in each of two", code(0, 65, 0, 4, 64, 5, 65, 0, 4, 64, 5, 11, 11, 11));
    Kit.fault("in a 2", code(0, 2, 64, 5, 11, 11), 10, AT + 3);
    Kit.fault("in a 3", code(0, 3, 64, 5, 11, 11), 10, AT + 3);
    Kit.fault("in a 2 in a 4", code(0, 65, 0, 4, 64, 2, 64, 5, 11, 11, 11), 10, AT + 7);
    Kit.fault("in a 3 in a 4", code(0, 65, 0, 4, 64, 3, 64, 5, 11, 11, 11), 10, AT + 7);
    Kit.fault("behind a 4", code(0, 65, 0, 4, 64, 11, 5, 11), 10, AT + 6);
    Kit.fault("in the body", code(0, 5, 11), 10, AT + 1);
    Kit.fault("in a global's expression", m(6, 5, 1, 127, 0, 5, 11), 10, 13);
    Kit.fault("in a 4 of a global's expression", m(6, 8, 1, 127, 0, 4, 64, 5, 11, 11), 26, 13);
  }

  /** A BLOCK TYPE: an S33 that is 0 or more, or one byte: 64, or a value type; 8: S33 below 0 that is no such byte. */
  private static void blockTypeBytes() {
    for (int op = 2; op <= 4; op++) {
      for (int b = 0; b < 128; b++) {
        byte[] module = code(0, 0, op, b, 0, 11, 26, 11);
        String what = op + " with the block type " + b;
        if (b == 0 || b == 64 || isValue(b) && op != 4) Kit.fault(what, module);
        else if (isValue(b)) Kit.fault(what, module, 29, AT + 5);
        else if (b < 64) Kit.fault(what, module, 30, AT + 2);
        else Kit.fault(what, module, 8, AT + 3);
      }
      Kit.fault(op + " with 64 in two bytes", code(0, 0, op, 192, 127, 0, 11, 11), 8, AT + 3);
      Kit.fault(op + " with 127 in two bytes", code(0, 0, op, 255, 127, 0, 11, 11), 8, AT + 3);
      Kit.fault(op + " with 0 in two bytes", code(0, 0, op, 128, 0, 0, 11, 11));
      Kit.fault(op + " with 64 as a number", code(0, 0, op, 192, 0, 0, 11, 11), 30, AT + 2);
      Kit.fault(op + " at its body's end", m(1, 4, 1, 96, 0, 0, 3, 3, 2, 0, 0, Kit.section(10, 2, 2, 0, op, 64, 11, 11, 11)), 1, 25);
    }
  }

  private static int[] row(int... bytes) { return bytes; }

  /** What stands behind an instruction, in its shortest form; null when there is no such instruction. */
  private static int[] behind(int op) {
    if (op == 2 || op == 3 || op == 4) return row(64);
    if (op == 12 || op == 13 || op == 16 || op >= 32 && op <= 38 || op == 210) return row(0);
    if (op == 14) return row(1, 0, 0);
    if (op == 17 || op >= 40 && op <= 62) return row(0, 0);
    if (op == 28) return row(1, 127);
    if (op >= 63 && op <= 66) return row(0);
    if (op == 67) return row(0, 0, 0, 0);
    if (op == 68) return row(0, 0, 0, 0, 0, 0, 0, 0);
    if (op == 208) return row(112);
    boolean alone = op <= 1 || op == 5 || op == 11 || op == 15 || op == 26 || op == 27 || op >= 69 && op <= 196 || op == 209;
    return alone ? row() : null;
  }

  /** Alone: 0, 1, 15, 26, 27, 69 .. 196, 209. With a U32: .. An instruction that is none: 10, where it begins. */
  private static void formsOfInstructions() {
    for (int op = 0; op < 252; op++) {
      if (op == 5 || op == 11) continue;
      int[] rest = behind(op);
      if (rest == null) {
        Kit.fault("instruction " + op, code(0, 1, op), 10, AT + 2);
        continue;
      }
      boolean block = op >= 2 && op <= 4;
      ModuleEngine e = new ModuleEngine();
      Kit.load(e, code(0, 0, op, rest, block ? 11 : 1, 11));
      Kit.due("instruction " + op + " can be read: " + e.fault(0), e.fault(0) == 0 || e.fault(0) > 14, true);
      for (int n = 0; n < rest.length; n++)
        Kit.fault("instruction " + op + " with " + n + " bytes", code(0, 0, op, java.util.Arrays.copyOf(rest, n)), 1, AT + 3 + n);
      Kit.fault("instruction " + op + " and no END", code(0, 0, op, rest), 1, AT + 3 + rest.length);
    }
    for (int op = 253; op < 256; op++) Kit.fault("instruction " + op, code(0, 1, op), 10, AT + 2);
    Kit.fault("14 with no labels in its row", code(0, 0, 14, 0, 0, 11));
    Kit.fault("14 with very many", code(0, 0, 14, 255, 255, 255, 255, 15, 0, 0, 11), 1, AT + 11);
    Kit.fault("28 with very many", code(0, 0, 28, 255, 255, 255, 255, 15, 127, 127), 1, AT + 10);
    Kit.fault("28 with very many, of which one is none", code(0, 0, 28, 255, 255, 255, 255, 15, 127, 11), 8, AT + 9);
  }

  /** 252: a U32 k, and for k 0 .. 7 nothing, 8 a U32 and a 0, 9, 13, 15, 16, 17 a U32, 10 two 0, 11 a 0, 12, 14 two U32. */
  private static void formsBehind252() {
    int[] counts = {0, 0, 0, 0, 0, 0, 0, 0, 2, 1, 2, 1, 2, 1, 2, 1, 1, 1};
    byte[] head = {1, 4, 1, 96, 0, 0, 3, 2, 1, 0, 12, 1, 0};
    int at = AT + 3;
    for (int k = 0; k < 18; k++) {
      byte[] c = Kit.bytes(0, 0, 252, k, Kit.times(counts[k], 0), 1, 11);
      ModuleEngine e = new ModuleEngine();
      Kit.load(e, m(head, Kit.section(10, 1, c.length, c)));
      Kit.due("252 " + k + " can be read: " + e.fault(0), e.fault(0) == 0 || e.fault(0) > 14, true);
      for (int n = 0; n <= counts[k]; n++) {
        byte[] cut = Kit.bytes(0, 0, 252, k, Kit.times(n, 0));
        Kit.fault("252 " + k + " with " + n + " bytes", m(head, Kit.section(10, 1, cut.length, cut)), 1, at + cut.length);
      }
    }
    for (int k = 18; k < 128; k++) Kit.fault("252 " + k, code(0, 0, 252, k), 10, AT + 2);
    Kit.fault("252 without k", code(0, 0, 252), 1, AT + 3);
    Kit.fault("252 18 in two bytes", code(0, 0, 252, 146, 0), 10, AT + 2);
    Kit.fault("252 16 in five bytes", code(0, 0, 252, 144, 128, 128, 128, 0, 0, 11), 30, AT + 2);
    Kit.fault("252 with the greatest k", code(0, 0, 252, 255, 255, 255, 255, 15), 10, AT + 2);
    Kit.fault("252 with a k that is no number", code(0, 0, 252, 255, 255, 255, 255, 16), 4, AT + 7);
  }

  /** 63, 64: a 0; 252 with 8, 10, 11: 7 another byte, where it begins. */
  private static void zerosOfInstructions() {
    byte[] head = {1, 4, 1, 96, 0, 0, 3, 2, 1, 0, 5, 3, 1, 0, 0, 12, 1, 1};
    byte[] tail = {11, 3, 1, 1, 0};
    int at = 8 + head.length + 4;
    for (int b = 0; b < 256; b++) {
      int[][] rows = {{63, b}, {64, b}, {252, 8, 0, b}, {252, 10, b, 0}, {252, 10, 0, b}, {252, 11, b}};
      int[] places = {1, 1, 3, 2, 3, 2};
      for (int i = 0; i < rows.length; i++) {
        byte[] c = Kit.bytes(0, 0, rows[i], 0, 11);
        byte[] module = m(head, Kit.section(10, 1, c.length, c), tail);
        Kit.fault("a " + b + " behind " + rows[i][0] + ", " + rows[i][1], module, b == 0 ? 0 : 7, at + 2 + places[i]);
      }
    }
  }

  /** 8 and 9 only if there is a section 12 (ahead of it): 11, as soon as k was read, where that instruction begins. */
  private static void dataCountAhead() {
    for (int k = 8; k <= 9; k++) {
      Kit.fault("252 " + k, code(0, 0, 252, k, 0, 0, 11), 11, AT + 2);
      Kit.fault("252 " + k + ", and what is behind it is no number", code(0, 0, 252, k, 255, 255, 255, 255, 255), 11, AT + 2);
      Kit.fault("252 " + k + " at the end", code(0, 0, 252, k), 11, AT + 2);
      Kit.fault("252 with half of " + k, code(0, 0, 252, k | 128), 1, AT + 4);
      Kit.fault("252 " + k + " in two bytes", code(0, 0, 252, k | 128, 0), 11, AT + 2);
      Kit.fault("252 " + k + " in a global", m(6, 8, 1, 127, 0, 252, k, 0, 0, 11, 12, 1, 0), 11, 13);
      Kit.fault("252 " + k + " in an element", m(9, 7, 1, 0, 252, k, 0, 0, 11, 12, 1, 0), 11, 12);
      Kit.fault("252 " + k + " in data without it", m(11, 7, 1, 0, 252, k, 0, 0, 11), 11, 12);
      byte[] zero = k == 8 ? new byte[1] : new byte[0];
      Kit.fault("252 " + k + " in data behind it", m(5, 3, 1, 0, 0, 12, 1, 1, Kit.section(11, 1, 0, 252, k, 0, zero, 11, 0)), 26, 20);
    }
  }

  /** 13 not as many bodies as functions: the end of the module. */
  private static void asManyBodies() {
    byte[] types = {1, 4, 1, 96, 0, 0};
    byte[] body = {2, 0, 11};
    for (int functions = 0; functions < 4; functions++) {
      for (int bodies = 0; bodies < 4; bodies++) {
        byte[] module = m(types, Kit.section(3, functions, Kit.times(functions, 0)), Kit.section(10, bodies, Kit.times(bodies, body)));
        Kit.fault(functions + " functions, " + bodies + " bodies", module, functions == bodies ? 0 : 13, module.length);
      }
    }
    Kit.fault("no section 10", m(types, 3, 2, 1, 0, 0, 1, 0), 13, 21);
    Kit.fault("no section 3", m(types, Kit.section(10, 1, body), 0, 1, 0), 13, 23);
    Kit.fault("neither", m(types));
    Kit.fault("functions that are imported have no bodies", m(types, 2, 5, 1, 0, 0, 0, 0));
    Kit.fault("ahead of a type that there is not", m(3, 2, 1, 9), 13, 12);
  }

  /** 14 not as many data as section 12 says, if it is there: the end of the module (13 ahead of 14). */
  private static void asManyData() {
    for (int said = 0; said < 4; said++) {
      for (int data = 0; data < 4; data++) {
        byte[] module = m(12, 1, said, Kit.section(11, data, Kit.times(data, 1, 0)));
        Kit.fault(said + " data said, " + data + " there", module, said == data ? 0 : 14, module.length);
      }
    }
    Kit.fault("none said", m(Kit.section(11, 3, Kit.times(3, 1, 0))));
    Kit.fault("no section 11, 0 said", m(12, 1, 0));
    Kit.fault("no section 11, 1 said", m(12, 1, 1, 0, 1, 0), 14, 14);
    Kit.fault("very many said", m(12, 5, 255, 255, 255, 255, 15), 14, 15);
    Kit.fault("13 ahead of 14", m(1, 4, 1, 96, 0, 0, 3, 2, 1, 0, 12, 1, 1), 13, 21);
    Kit.fault("14 ahead of 40", m(12, 1, 1, Kit.section(11, 65L, Kit.times(65, 1, 0))), 14, 8 + 3 + 3 + 1 + 130);
  }

  /** Modules one behind the other: what one of them had, a fault too, is not there in the next. */
  private static void modulesOneByOne() {
    ModuleEngine e = new ModuleEngine();
    byte[] counted = m(12, 1, 0);
    byte[] uses = code(0, 0, 252, 9, 0, 11);
    Kit.due("one with a section 12", Kit.load(e, counted), 0);
    Kit.due("one without", Kit.load(e, uses), -1);
    Kit.due("its fault", e.fault(0), 11);
    Kit.due("its place, counted from its own first byte", e.fault(1), AT + 2);
    byte[] large = m(Kit.section(1, 1, Kit.type(new int[] {127}, new int[] {127})), Kit.section(2, 2, 0, 0, 0, 0, 0, 0, 3, 127, 0),
      Kit.section(3, 2, 0, 0), Kit.section(4, 2, 112, 0, 1, 112, 0, 1), Kit.section(5, 1, 0, 1), Kit.section(6, 1, 127, 1, 65, 0, 11),
      Kit.section(7, 1, "f", 0, 1), Kit.section(9, 1, 1, 0, 2, 0, 1), Kit.section(12, 1),
      Kit.section(10, 2, Kit.body(32, 0), Kit.body(65, 0, 65, 0, 2, 64)), Kit.section(11, 1, 1, 0));
    Kit.due("a large one with a fault", Kit.load(e, large), -1);
    Kit.due("an empty one", Kit.load(e, m()), 1);
    Kit.due("has nothing", e.make(1), 0);
    Kit.due("no functions", e.state(7), 0);
    Kit.due("no pages", e.state(8), 8);
    Kit.due("no exports", e.export(0, 0, 0), -1);
    Kit.due("a fault again", Kit.load(e, large), -1);
    Kit.due("no bodies are left of it", Kit.load(e, m(1, 4, 1, 96, 0, 0, 3, 2, 1, 0)), -1);
    Kit.due("the fault", e.fault(0), 13);
    Kit.due("no start is left", Kit.load(e, m(8, 1, 0)), -1);
    Kit.due("an empty one again", Kit.load(e, m()), 2);
    Kit.due("made", e.make(2), 1);
    Kit.due("nothing runs", e.state(0), 0);
  }
}
