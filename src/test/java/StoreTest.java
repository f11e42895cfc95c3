/** Part IV with promises 5 and 6: offers, what fits, the room of the store, and what making an instance does. */
public final class StoreTest {
  private static final int[] NO = {};
  private static final int[] INT = {127};

  public static void main(String[] args) {
    offers();
    order();
    functions();
    tables();
    memories();
    globals();
    room();
    filling();
    start();
    shared();
    Kit.finish();
  }

  private static void offers() {
    ModuleEngine e = Kit.engine(Kit.simple(NO, NO));
    Kit.due("of HOST", e.offer(-1, 0), 1);
    Kit.due("of HOST 63", e.offer(-1, 63), 2);
    Kit.due("of HOST 64", e.offer(-1, 64), -1);
    Kit.due("of HOST -1", e.offer(-1, -1), -1);
    Kit.due("an export", e.offer(0, 2), 3);
    Kit.due("no export", e.offer(0, 3), -1);
    Kit.due("no export below", e.offer(0, -1), -1);
    Kit.due("no instance", e.offer(1, 0), -1);
    Kit.due("no instance below", e.offer(-2, 0), -1);
    for (int i = 4; i <= 64; i++) Kit.due("offer " + i, e.offer(0, 0), i);
    Kit.due("65", e.offer(0, 0), -1);
    Kit.due("65 of HOST", e.offer(-1, 0), -1);
    Kit.due("no such module", e.make(1), -1);
    Kit.due("no such module below", e.make(-1), -1);
    Kit.due("offers stay", e.offer(0, 0), -1);
    Kit.due("more than imports", e.make(0), -2);
    Kit.due("offers are gone", e.offer(0, 0), 1);
  }

  /** A module with these imports, and nothing else but types 0 () to () and 1 (127) to (). */
  private static byte[] importing(int count, Object... imports) {
    return Kit.module(Kit.section(1, 2, Kit.type(NO, NO), Kit.type(INT, NO)), Kit.section(2, count, Kit.bytes(imports)));
  }

  /** Exports: 0 function () to (), 1 (127) to (), 2 table of 112 (2, 5), 3 of 111 (0, no greatest), 4 memory (1, 3), 5 to 8 globals 127 and 126, fixed and not. */
  private static byte[] exporting() {
    return Kit.module(Kit.section(1, 3, Kit.type(INT, NO), Kit.type(NO, NO), Kit.type(NO, INT)), Kit.section(3, 4, 1, 0, 2, 2),
      Kit.section(4, 2, 112, 1, 2, 5, 111, 0, 0), Kit.section(5, 1, 1, 1, 3),
      Kit.section(6, 4, 127, 0, 65, 7, 11, 127, 1, 65, 8, 11, 126, 0, 66, 9, 11, 126, 1, 66, 10, 11),
      Kit.section(7, 11, "a", 0, 0, "b", 0, 1, "c", 1, 0, "d", 1, 1, "e", 2, 0, "f", 3, 0, "g", 3, 1, "h", 3, 2, "i", 3, 3, "j", 0, 2, "k", 0, 3),
      Kit.section(10, 4, Kit.body(), Kit.body(), Kit.body(65, 1, 64, 0), Kit.body(208, 112, 65, 1, 252, 15, 0)));
  }

  private static ModuleEngine with(byte[] importer) {
    ModuleEngine e = Kit.engine(exporting());
    Kit.due("the importer", Kit.load(e, importer), 1);
    return e;
  }

  private static void fits(String what, int want, int export, Object... one) {
    ModuleEngine e = with(importing(1, "m", "n", Kit.bytes(one)));
    e.offer(0, export);
    Kit.due(what, e.make(1), want);
    Kit.due(what + ": instances", e.state(6), want >= 0 ? 2 : 1);
    Kit.due(what + ": offers are gone", e.offer(0, 0), 1);
  }

  private static void order() {
    ModuleEngine e = with(importing(4, "", "", 0, 0, "", "", 1, 112, 0, 0, "", "", 2, 0, 0, "", "", 3, 127, 0));
    int[] right = {0, 2, 4, 5};
    Kit.due("no offers", e.make(1), -2);
    for (int k = 0; k < 4; k++) {
      for (int i = 0; i < 4; i++) e.offer(0, i >= k ? 8 : right[i]);
      Kit.due("the first that does not fit is of kind " + k, e.make(1), k == 3 ? -6 : -3 - k);
    }
    for (int i = 0; i < 3; i++) e.offer(0, right[i]);
    Kit.due("one too few", e.make(1), -2);
    for (int i = 0; i < 4; i++) e.offer(0, right[i]);
    Kit.due("all", e.make(1), 1);
    Kit.due("nothing more in the store", e.state(7), 4);
    for (int i = 0; i < 4; i++) e.offer(-1, i);
    Kit.due("HOST has no tables", e.make(1), -4);
    e.offer(0, 1);
    Kit.due("too few, though it does not fit", e.make(1), -2);
  }

  private static void functions() {
    fits("the same rows under another number", 1, 0, 0, 0);
    fits("the other one", 1, 1, 0, 1);
    fits("other rows", -3, 1, 0, 0);
    fits("results count", -3, 9, 0, 0);
    fits("a table for a function", -3, 2, 0, 0);
    ModuleEngine e = with(importing(2, "", "", 0, 0, "", "", 0, 1));
    e.offer(-1, 5);
    e.offer(-1, 5);
    Kit.due("HOST fits", e.make(1), 1);
    Kit.due("each is a function more", e.state(7), 6);
    e.offer(0, 0);
    e.offer(-1, 5);
    Kit.due("some of HOST", e.make(1), 2);
    Kit.due("one more", e.state(7), 7);
  }

  private static void tables() {
    fits("least", 1, 2, 1, 112, 0, 2);
    fits("less than the least", -4, 2, 1, 112, 0, 3);
    fits("greatest", 1, 2, 1, 112, 1, 0, 5);
    fits("a greater one", 1, 2, 1, 112, 1, 2, 9);
    fits("a lesser greatest", -4, 2, 1, 112, 1, 2, 4);
    fits("of the other type", -4, 2, 1, 111, 0, 0);
    fits("no greatest asked", 1, 3, 1, 111, 0, 0);
    fits("made without a greatest", -4, 3, 1, 111, 1, 0, 255, 255, 255, 255, 15);
    fits("a memory for a table", -4, 4, 1, 112, 0, 0);
    ModuleEngine e = with(importing(1, "", "", 1, 112, 1, 3, 5));
    e.offer(0, 2);
    Kit.due("not yet", e.make(1), -4);
    Kit.run(e, 0, 10);
    e.offer(0, 2);
    Kit.due("now it has", e.make(1), 1);
  }

  private static void memories() {
    fits("least", 1, 4, 2, 0, 1);
    fits("less than the least", -5, 4, 2, 0, 2);
    fits("greatest", 1, 4, 2, 1, 1, 3);
    fits("a lesser greatest", -5, 4, 2, 1, 1, 2);
    fits("a global for a memory", -5, 5, 2, 0, 0);
    ModuleEngine e = with(importing(1, "", "", 2, 0, 2));
    Kit.run(e, 0, 9);
    e.offer(0, 4);
    Kit.due("grown", e.make(1), 1);
    Kit.due("no more pages", e.state(8), 6);
  }

  private static void globals() {
    fits("fixed", 1, 5, 3, 127, 0);
    fits("fixed for one that changes", -6, 5, 3, 127, 1);
    fits("one that changes", 1, 6, 3, 127, 1);
    fits("one that changes for a fixed one", -6, 6, 3, 127, 0);
    fits("of another type", -6, 7, 3, 127, 0);
    fits("a function for a global", -6, 0, 3, 127, 0);
  }

  private static byte[] sized(int functions, int tables, int entries, int pages, int globals, int references) {
    byte[] memory = pages >= 0 ? Kit.section(5, 1, 0, pages) : Kit.bytes();
    return Kit.module(Kit.section(1, 1, Kit.type(NO, NO)), Kit.section(3, (long) functions, Kit.times(functions, 0)),
      Kit.section(4, (long) tables, Kit.times(tables, 112, 0, (long) entries)), memory,
      Kit.section(6, (long) globals, Kit.times(globals, 127, 0, 65, 0, 11)),
      Kit.section(9, 1, 1, 0, (long) references, Kit.times(references, 0)),
      Kit.section(10, (long) functions, Kit.times(functions, 2, 0, 11)));
  }

  private static void fill(String what, int most, byte[] m) {
    ModuleEngine e = new ModuleEngine();
    Kit.due(what + ": module", Kit.load(e, m), 0);
    for (int i = 0; i < most; i++) Kit.due(what + ": instance " + i, e.make(0), i);
    int functions = e.state(7);
    int pages = e.state(8);
    int entries = e.state(9);
    Kit.due(what + ": no room", e.make(0), -9);
    Kit.due(what + ": instances", e.state(6), most);
    Kit.due(what + ": functions", e.state(7), functions);
    Kit.due(what + ": pages", e.state(8), pages);
    Kit.due(what + ": entries", e.state(9), entries);
  }

  private static void room() {
    fill("16 instances", 16, Kit.module());
    fill("512 functions", 8, sized(64, 0, 0, -1, 0, 0));
    fill("513 functions", 8, sized(60, 0, 0, -1, 0, 0));
    fill("32 tables", 4, sized(1, 8, 0, -1, 0, 0));
    fill("1024 entries", 2, sized(1, 4, 128, -1, 0, 0));
    fill("1025 entries", 3, sized(1, 1, 300, -1, 0, 0));
    fill("8 pages", 2, sized(1, 0, 0, 4, 0, 0));
    fill("9 pages", 2, sized(1, 0, 0, 3, 0, 0));
    fill("memories of nothing", 16, sized(1, 0, 0, 0, 0, 0));
    fill("256 globals", 4, sized(1, 0, 0, -1, 64, 0));
    fill("2048 references", 2, sized(1, 0, 0, -1, 0, 1024));
    fill("2049 references", 2, sized(1, 0, 0, -1, 0, 1000));
    fill("a table that is too large", 0, sized(1, 1, Integer.MAX_VALUE, -1, 0, 0));
    fill("pages that are too many", 0, Kit.module(Kit.section(5, 1, 0, 65536L)));
    byte[] dropped = Kit.module(Kit.section(1, 1, Kit.type(NO, NO)), Kit.section(3, 1, 0),
      Kit.section(9, 1, 3, 0, 1024L, Kit.times(1024, 0)), Kit.section(10, 1, 2, 0, 11));
    fill("dropped references count, too", 2, dropped);
    ModuleEngine e = new ModuleEngine();
    Kit.load(e, sized(64, 0, 0, -1, 0, 0));
    Kit.load(e, importing(1, "", "", 0, 0));
    for (int i = 0; i < 8; i++) e.make(0);
    e.offer(-1, 1);
    Kit.due("HOST's functions need room", e.make(1), -9);
    Kit.due("offers are gone", e.offer(-1, 1), 1);
    Kit.due("an import that does not fit comes first", e.make(0), -2);
  }

  private static void filling() {
    byte[] m = Kit.module(Kit.section(1, 2, Kit.type(NO, NO), Kit.type(NO, INT)), Kit.section(2, 2, "", "", 3, 127, 0, "", "", 0, 1),
      Kit.section(3, 3, 0, 0, 0), Kit.section(4, 1, 112, 0, 4), Kit.section(5, 1, 0, 1),
      Kit.section(6, 2, 127, 0, 35, 0, 11, 112, 0, 210, 2, 11),
      Kit.section(7, 6, "t", 1, 0, "m", 2, 0, "g", 3, 1, "h", 3, 2, "i", 0, 1, "j", 0, 3),
      Kit.section(9, 4, 0, 35, 0, 11, 2, 0, 1, 3, 0, 1, 2, 4, 65, 0, 11, 1, 210, 3, 11, 1, 0, 1, 1),
      Kit.section(12, 2),
      Kit.section(10, 3, Kit.body(65, 0, 65, 0, 65, 1, 252, 12, 1, 0), Kit.body(), Kit.body(65, 0, 65, 0, 65, 1, 252, 12, 3, 0)),
      Kit.section(11, 2, 0, 35, 0, 11, 2, 5, 6, 1, 1, 9));
    byte[] number = Kit.module(Kit.section(6, 4, 127, 0, 65, 2, 11, 127, 0, 65, 3, 11, 127, 0, 65, 127, 11, 127, 0, 65, 255, 255, 3, 11),
      Kit.section(7, 4, "a", 3, 0, "b", 3, 1, "c", 3, 2, "d", 3, 3));
    ModuleEngine e = new ModuleEngine();
    Kit.load(e, m);
    Kit.load(e, number);
    e.make(1);
    e.offer(0, 0);
    e.offer(-1, 9);
    Kit.due("make", e.make(0), 1);
    int[] table = {3, -1, 0, 1};
    for (int i = 0; i < 4; i++) Kit.due("entry " + i, e.table(1, 0, i), table[i]);
    Kit.due("a byte", e.memory(1, 1, 2), 5);
    Kit.due("the next", e.memory(1, 1, 3), 6);
    Kit.due("a global of an imported one", e.global(1, 2), 2);
    Kit.due("a global of a function", e.global(1, 3), 2);
    Kit.due("state stays", e.state(0), 0);
    Kit.run(e, 1, 4);
    Kit.due("a declared element has nothing", e.state(1), 6);
    Kit.run(e, 1, 5);
    Kit.due("a passive one has it", e.state(0), 2);
    Kit.due("it was copied", e.table(1, 0, 0), 1);

    e.argument(4);
    e.offer(0, 1);
    e.offer(-1, 9);
    Kit.due("an element beyond its table", e.make(0), 2);
    Kit.due("the instance is there", e.state(6), 3);
    Kit.due("trapped", e.state(0), 3);
    Kit.due("by 6", e.state(1), 6);
    Kit.due("steps", e.state(2), 0);
    Kit.due("no frames", e.state(3), 0);
    Kit.due("arguments stay", e.argument(4), 2);
    for (int i = 0; i < 4; i++) Kit.due("nothing was copied: entry " + i, e.table(2, 0, i), -1);
    Kit.due("nor any byte", e.memory(2, 1, 3), 0);

    e = new ModuleEngine();
    Kit.load(e, m);
    Kit.load(e, number);
    e.make(1);
    e.offer(0, 2);
    e.offer(-1, 9);
    Kit.due("a great place is no place below", e.make(0), 1);
    Kit.due("by 6", e.state(1), 6);
    Kit.run(e, 1, 4);
    Kit.due("a declared one behind the trap keeps what it has", e.state(0), 2);

    byte[] two = Kit.module(Kit.section(1, 1, Kit.type(NO, NO)), Kit.section(3, 2, 0, 0), Kit.section(5, 1, 0, 1), Kit.section(7, 3, "m", 2, 0, "f", 0, 0, "g", 0, 1),
      Kit.section(12, 3),
      Kit.section(10, 2, Kit.body(65, 0, 65, 0, 65, 1, 252, 8, 1, 0), Kit.body(65, 0, 65, 0, 65, 1, 252, 8, 0, 0)),
      Kit.section(11, 3, 0, 65, 1, 11, 1, 7, 0, 65, 255, 255, 3, 11, 2, 8, 9, 0, 65, 2, 11, 1, 10));
    e = new ModuleEngine();
    Kit.load(e, two);
    Kit.due("data beyond the memory", e.make(0), 0);
    Kit.due("trapped", e.state(0), 3);
    Kit.due("by 5", e.state(1), 5);
    Kit.due("what was copied stays", e.memory(0, 0, 1), 7);
    Kit.due("none of what is beyond", e.memory(0, 0, 65535), 0);
    Kit.due("nor what is behind it", e.memory(0, 0, 2), 0);
    Kit.run(e, 0, 1);
    Kit.due("that data keeps what it has", e.state(0), 2);
    Kit.due("there", e.memory(0, 0, 0), 8);
    Kit.run(e, 0, 2);
    Kit.due("the one ahead has nothing", e.state(0), 3);
    Kit.due("by 5", e.state(1), 5);

    byte[] ends = Kit.module(Kit.section(4, 1, 112, 0, 1), Kit.section(5, 1, 0, 1), Kit.section(9, 1, 4, 65, 1, 11, 0), Kit.section(11, 1, 0, 65, 128, 128, 4, 11, 0));
    e = new ModuleEngine();
    Kit.load(e, ends);
    Kit.due("nothing at the ends", e.make(0), 0);
    Kit.due("is no trap", e.state(0), 0);
    byte[] beyond = Kit.module(Kit.section(4, 1, 112, 0, 1), Kit.section(9, 1, 4, 65, 2, 11, 0));
    e = new ModuleEngine();
    Kit.load(e, beyond);
    Kit.due("nothing beyond the end", e.make(0), 0);
    Kit.due("is one", e.state(1), 6);
  }

  private static void start() {
    byte[] m = Kit.module(Kit.section(1, 1, Kit.type(NO, NO)), Kit.section(3, 1, 0), Kit.section(6, 1, 127, 1, 65, 0, 11), Kit.section(7, 1, "g", 3, 0),
      Kit.section(8, 0), Kit.section(10, 1, Kit.body(65, 9, 36, 0)));
    for (int tier = 0; tier < 2; tier++) {
      ModuleEngine e = new ModuleEngine();
      Kit.load(e, m);
      e.tier(tier);
      e.argument(3);
      Kit.due("make", e.make(0), 0);
      Kit.due("it runs", e.state(0), 1);
      Kit.due("a frame", e.state(3), 1);
      Kit.due("counted", e.state(11), tier);
      Kit.due("steps", e.run(9), 2);
      Kit.due("ended", e.state(0), 2);
      Kit.due("done", e.global(0, 0), 9);
      Kit.due("arguments stay", e.argument(3), 2);
    }
    byte[] empty = Kit.module(Kit.section(1, 1, Kit.type(NO, NO)), Kit.section(3, 1, 0), Kit.section(8, 0), Kit.section(10, 1, Kit.body()));
    ModuleEngine e = new ModuleEngine();
    Kit.load(e, empty);
    Kit.due("make", e.make(0), 0);
    Kit.due("ended at once", e.state(0), 2);
    byte[] host = Kit.module(Kit.section(1, 1, Kit.type(NO, NO)), Kit.section(2, 1, "", "", 0, 0), Kit.section(8, 0));
    e = new ModuleEngine();
    Kit.load(e, host);
    e.offer(-1, 11);
    Kit.due("make", e.make(0), 0);
    Kit.due("HOST is asked", e.state(0), 5);
    Kit.due("which", e.state(4), 11);
    Kit.due("answer", e.answer(), true);
    Kit.due("ended", e.state(0), 2);
    byte[] plain = Kit.simple(INT, INT, 32, 0);
    e = Kit.engine(plain);
    Kit.run(e, 0, 0, 42);
    Kit.due("another", e.make(0), 1);
    Kit.due("without a start what is told stays", e.value(0), 42);
    Kit.due("steps, too", e.state(2), 1);
  }

  private static void shared() {
    ModuleEngine e = with(Kit.module(Kit.section(1, 1, Kit.type(NO, NO)),
      Kit.section(2, 4, "", "", 2, 0, 1, "", "", 3, 127, 1, "", "", 1, 112, 0, 0, "", "", 0, 0), Kit.section(3, 1, 0),
      Kit.section(7, 5, "m", 2, 0, "g", 3, 0, "t", 1, 0, "f", 0, 1, "h", 0, 0),
      Kit.section(10, 1, Kit.body(65, 3, 65, 44, 54, 0, 0, 65, 99, 36, 0, 65, 1, 210, 1, 38, 0, 16, 0))));
    e.offer(0, 4);
    e.offer(0, 6);
    e.offer(0, 2);
    e.offer(0, 0);
    Kit.due("make", e.make(1), 1);
    for (int k = 0; k < 3; k++) Kit.due("the same in the store: " + k, e.export(1, k, 1), e.export(0, k == 0 ? 4 : k == 1 ? 6 : 2, 1));
    Kit.due("the same function", e.export(1, 4, 1), e.export(0, 0, 1));
    Kit.due("a new one", e.export(1, 3, 1), 4);
    Kit.run(e, 1, 3);
    Kit.due("ended", e.state(0), 2);
    Kit.due("the byte of both", e.memory(0, 4, 3), 44);
    Kit.due("the global of both", e.global(0, 6), 0xffffffffL & 99 - 128);
    Kit.due("the entry of both", e.table(0, 2, 1), 4);
    Kit.run(e, 0, 9);
    Kit.due("grown by one", e.export(1, 0, 4), 2);
  }
}
