/**
 * Part IV, sentence by sentence, where it names an edge: the store when it is full, offers that just fit, segments at the
 * ends of tables and memories, and what a trap in the making leaves. Promises 5 and 6 stand on it.
 */
public final class EdgesOfStoreTest {
  private static final int[] NO = {};
  private static final int[] INT = {127};
  private static final int[] KINDS = {127, 126, 125, 124, 112, 111};

  public static void main(String[] args) {
    fullOfFunctions();
    fullOfTables();
    fullOfEntries();
    fullOfPages();
    fullOfGlobals();
    fullOfInstances();
    fullOfReferences();
    importsNeedNoRoom();
    refusalsInOrder();
    asManyOffers();
    firstThatDoesNotFit();
    kindsFit();
    functionsFit();
    typesOfAllModules();
    tablesFit();
    memoriesFit();
    limitsOfEachImport();
    globalsFit();
    hostsFunctions();
    orderInTheStore();
    valuesOfGlobals();
    referencesOfElements();
    placesOfElements();
    placesOfData();
    dropped();
    firstTrapOfElements();
    firstTrapOfData();
    trapsAreTold();
    startOrNone();
    argumentsStay();
    copiedToImports();
    lastNumbers();
    Kit.finish();
  }

  /** A module without imports, of so many own things; the references are in a passive element. */
  private static byte[] sized(int functions, int tables, long entries, long pages, int globals, int references) {
    return Kit.module(Kit.section(1, 1, Kit.type(NO, NO)), Kit.section(3, (long) functions, Kit.times(functions, 0)),
      Kit.section(4, (long) tables, Kit.times(tables, 111, 0, entries)), pages < 0 ? Kit.bytes() : Kit.section(5, 1, 0, pages),
      Kit.section(6, (long) globals, Kit.times(globals, 126, 0, 66, 5, 11)),
      references == 0 ? Kit.bytes() : Kit.section(9, 1, 5, 111, (long) references, Kit.times(references, 208, 111, 11)),
      Kit.section(10, (long) functions, Kit.times(functions, 2, 0, 11)));
  }

  /** An engine with these modules, and one that was refused ahead of each and behind all of them. */
  private static ModuleEngine loaded(byte[]... modules) {
    ModuleEngine e = new ModuleEngine();
    for (int i = 0; i < modules.length; i++) {
      Kit.load(e, Kit.REFUSED);
      Kit.due("module " + i, Kit.load(e, modules[i]), i);
    }
    Kit.due("refused", Kit.load(e, Kit.module(77)), -1);
    return e;
  }

  /** Of the large one there is room for just so many; then of the small one for just so many more. */
  private static void full(String what, byte[] large, int most, byte[] small, int more) {
    Kit.Setup setup = () -> {
      ModuleEngine e = loaded(large, small);
      for (int i = 0; i < most; i++) Kit.due(what + ": large " + i, e.make(0), i);
      for (int i = 0; i < more; i++) Kit.due(what + ": small " + i, e.make(1), most + i);
      return e;
    };
    Kit.refused(what + ": one more small one", setup, e -> e.make(1), -9);
    Kit.refused(what + ": one more large one", setup, e -> e.make(0), -9);
    Kit.due(what + ": instances", setup.get().state(6), most + more);
  }

  /** At most 512 FUNCTIONS; those of HOST are functions, too. */
  private static void fullOfFunctions() {
    full("functions", sized(64, 0, 0, -1, 0, 0), 7, sized(32, 0, 0, -1, 0, 0), 2);
    full("one function", sized(64, 0, 0, -1, 0, 0), 8, sized(1, 0, 0, -1, 0, 0), 0);
    byte[] host = Kit.module(Kit.section(1, 1, Kit.type(NO, NO)), Kit.section(2, 2, "", "", 0, 0, "", "", 0, 0), Kit.section(3, 1, 0),
      Kit.section(7, 1, "f", 0, 2), Kit.section(10, 1, 2, 0, 11));
    for (int own = 61; own < 64; own++) {
      ModuleEngine e = loaded(sized(64, 0, 0, -1, 0, 0), sized(own, 0, 0, -1, 0, 0), host);
      for (int i = 0; i < 7; i++) e.make(0);
      e.make(1);
      e.offer(-1, 1);
      e.offer(-1, 1);
      Kit.due("HOST's two and an own one behind " + (448 + own), e.make(2), own == 61 ? 8 : -9);
      Kit.due("functions", e.state(7), own == 61 ? 512 : 448 + own);
    }
    for (int own = 62; own < 65; own++) {
      ModuleEngine e = loaded(sized(64, 0, 0, -1, 0, 0), sized(own - 3, 0, 0, -1, 0, 0), host);
      for (int i = 0; i < 7; i++) e.make(0);
      e.offer(-1, 1);
      e.offer(-1, 1);
      Kit.due("host", e.make(2), 7);
      e.make(1);
      e.offer(7, 0);
      e.offer(-1, 1);
      Kit.due("HOST's one, another's and an own one behind " + (448 + own), e.make(2), own < 63 ? 9 : -9);
    }
  }

  /** 32 TABLES. */
  private static void fullOfTables() {
    full("tables", sized(0, 10, 0, -1, 0, 0), 3, sized(0, 1, 0, -1, 0, 0), 2);
    full("tables of one module", sized(0, 32, 0, -1, 0, 0), 1, sized(0, 1, 0, -1, 0, 0), 0);
    full("33 tables", sized(0, 33, 0, -1, 0, 0), 0, sized(0, 64, 0, -1, 0, 0), 0);
  }

  /** With 1024 entries in all. */
  private static void fullOfEntries() {
    full("entries", sized(0, 1, 1000, -1, 0, 0), 1, sized(0, 3, 4, -1, 0, 0), 2);
    full("entries of one table", sized(0, 1, 1024, -1, 0, 0), 1, sized(0, 1, 1, -1, 0, 0), 0);
    full("1025 entries", sized(0, 1, 1025, -1, 0, 0), 0, sized(0, 5, 205, -1, 0, 0), 0);
    full("very many entries", sized(0, 1, 4294967295L, -1, 0, 0), 0, sized(0, 2, 4294967295L, -1, 0, 0), 0);
    ModuleEngine e = loaded(sized(0, 1, 1024, -1, 0, 0), sized(0, 2, 0, -1, 0, 0));
    e.make(0);
    Kit.due("tables of nothing", e.make(1), 1);
    Kit.due("entries left", e.state(9), 0);
  }

  /** 16 MEMORIES with 8 pages in all. */
  private static void fullOfPages() {
    full("pages", sized(0, 0, 0, 3, 0, 0), 2, sized(0, 0, 0, 1, 0, 0), 2);
    full("pages of one memory", sized(0, 0, 0, 8, 0, 0), 1, sized(0, 0, 0, 1, 0, 0), 0);
    full("9 pages", sized(0, 0, 0, 9, 0, 0), 0, sized(0, 0, 0, 65536, 0, 0), 0);
    ModuleEngine e = loaded(sized(0, 0, 0, 8, 0, 0), sized(0, 0, 0, 0, 0, 0));
    e.make(0);
    Kit.due("a memory of nothing", e.make(1), 1);
    Kit.due("pages left", e.state(8), 0);
    e = loaded(sized(0, 0, 0, 0, 0, 0));
    for (int i = 0; i < 16; i++) Kit.due("memory " + i, e.make(0), i);
  }

  /** 256 GLOBALS. */
  private static void fullOfGlobals() {
    full("globals", sized(0, 0, 0, -1, 64, 0), 3, sized(0, 0, 0, -1, 32, 0), 2);
    full("one global", sized(0, 0, 0, -1, 64, 0), 4, sized(0, 0, 0, -1, 1, 0), 0);
  }

  /** 16 INSTANCES. */
  private static void fullOfInstances() {
    full("instances", Kit.module(), 16, Kit.module(), 0);
  }

  /** 2048 references in elements of instances (those DROPPED, too). */
  private static void fullOfReferences() {
    full("references", sized(0, 0, 0, -1, 0, 1000), 2, sized(0, 0, 0, -1, 0, 24), 2);
    full("one reference", sized(0, 0, 0, -1, 0, 2048), 1, sized(0, 0, 0, -1, 0, 1), 0);
    full("2049 references", sized(0, 0, 0, -1, 0, 2049), 0, sized(0, 0, 0, -1, 0, 2050), 0);
    byte[] row = Kit.times(500, 208, 111, 11);
    byte[] active = Kit.module(Kit.section(4, 1, 111, 0, 500L), Kit.section(9, 2, 6, 0, 65, 0, 11, 111, 500L, row, 7, 111, 500L, row));
    full("references that are dropped", active, 2, sized(0, 0, 0, -1, 0, 24), 2);
  }

  /** Only its own functions, tables, memories, globals come into the store. */
  private static void importsNeedNoRoom() {
    byte[] all = Kit.module(Kit.section(1, 1, Kit.type(NO, NO)), Kit.section(3, 1, 0), Kit.section(4, 1, 112, 0, 1024L), Kit.section(5, 1, 0, 8),
      Kit.section(6, 1, 126, 0, 66, 5, 11), Kit.section(7, 4, "f", 0, 0, "t", 1, 0, "m", 2, 0, "g", 3, 0), Kit.section(10, 1, 2, 0, 11));
    byte[] importer = Kit.module(Kit.section(1, 1, Kit.type(NO, NO)),
      Kit.section(2, 4, "", "", 0, 0, "", "", 1, 112, 0, 1024L, "", "", 2, 0, 8, "", "", 3, 126, 0));
    ModuleEngine e = loaded(all, importer, sized(63, 0, 0, -1, 63, 0), sized(64, 0, 0, -1, 64, 0));
    e.make(0);
    e.make(2);
    for (int i = 0; i < 3; i++) e.make(3);
    Kit.due("no pages left", e.state(8), 0);
    Kit.due("no entries left", e.state(9), 0);
    for (int k = 0; k < 4; k++) e.offer(0, k);
    Kit.due("imports need no room", e.make(1), 5);
    Kit.due("no functions more", e.state(7), 256);
  }

  /** -2, then -3 - k, then -9 (behind all that). */
  private static void refusalsInOrder() {
    byte[] m = Kit.module(Kit.section(2, 1, "", "", 3, 127, 0), Kit.section(5, 1, 0, 9));
    byte[] globals = Kit.module(Kit.section(6, 2, 127, 0, 65, 5, 11, 126, 0, 66, 5, 11), Kit.section(7, 2, "a", 3, 0, "b", 3, 1));
    ModuleEngine e = loaded(globals, m);
    e.make(0);
    Kit.due("no offers, no room", e.make(1), -2);
    e.offer(0, 1);
    Kit.due("does not fit, no room", e.make(1), -6);
    e.offer(0, 0);
    Kit.due("fits, no room", e.make(1), -9);
    Kit.due("offers are gone", e.offer(0, 0), 1);
    e.offer(0, 1);
    Kit.due("too many, and one does not fit", e.make(1), -2);
  }

  /** -2 not as many offers as imports. */
  private static void asManyOffers() {
    for (int imports = 0; imports <= 64; imports += imports == 3 ? 60 : 1) {
      byte[] m = Kit.module(Kit.section(1, 1, Kit.type(NO, NO)), Kit.section(2, (long) imports, Kit.times(imports, "", "", 0, 0)));
      for (int offers = Math.max(0, imports - 1); offers <= Math.min(64, imports + 1); offers++) {
        ModuleEngine e = loaded(m);
        for (int i = 1; i <= offers; i++) Kit.due("offer", e.offer(-1, i % 64), i);
        Kit.due(offers + " offers for " + imports, e.make(0), offers == imports ? 0 : -2);
        Kit.due("functions", e.state(7), offers == imports ? imports : 0);
        Kit.due("offers are gone", e.offer(-1, 0), 1);
      }
    }
  }

  /** Exports 0 and 1 functions () to () and (127) to (), 2 and 3 tables of 112 (2, 5) and 111 (0), 4 a memory (1, 3), 5 to 8 globals. */
  private static byte[] exporting() {
    return Kit.module(Kit.section(1, 3, Kit.type(INT, NO), Kit.type(NO, NO), Kit.type(NO, INT)), Kit.section(3, 4, 1, 0, 2, 2),
      Kit.section(4, 2, 112, 1, 2, 5, 111, 0, 0), Kit.section(5, 1, 1, 1, 3),
      Kit.section(6, 4, 127, 0, 65, 7, 11, 127, 1, 65, 8, 11, 126, 0, 66, 9, 11, 126, 1, 66, 10, 11),
      Kit.section(7, 11, "a", 0, 0, "b", 0, 1, "c", 1, 0, "d", 1, 1, "e", 2, 0, "f", 3, 0, "g", 3, 1, "h", 3, 2, "i", 3, 3, "j", 0, 2, "k", 0, 3),
      Kit.section(10, 4, Kit.body(), Kit.body(), Kit.body(65, 1, 64, 0), Kit.body(208, 112, 65, 1, 252, 15, 0)));
  }

  private static byte[] importing(int count, Object... imports) {
    return Kit.module(Kit.section(1, 2, Kit.type(NO, NO), Kit.type(INT, NO)), Kit.section(2, count, Kit.bytes(imports)));
  }

  private static ModuleEngine linked(byte[] exporter, byte[] importer) {
    ModuleEngine e = loaded(exporter, importer);
    e.make(0);
    return e;
  }

  private static void fits(String what, int want, int export, Object... one) {
    ModuleEngine e = linked(exporting(), importing(1, "m", "n", Kit.bytes(one)));
    e.offer(0, export);
    Kit.due(what, e.make(1), want);
    Kit.due(what + ": instances", e.state(6), want < 0 ? 1 : 2);
  }

  /** -3 - k: the first that does not fit is for an import of kind k. */
  private static void firstThatDoesNotFit() {
    int[] right = {0, 2, 4, 5};
    byte[][] imports = {Kit.bytes("", "", 0, 0), Kit.bytes("", "", 1, 112, 0, 0), Kit.bytes("", "", 2, 0, 0), Kit.bytes("", "", 3, 127, 0)};
    for (int turn = 0; turn < 4; turn++) {
      byte[] rows = {};
      for (int i = 0; i < 4; i++) rows = Kit.bytes(rows, imports[(turn + i) % 4]);
      ModuleEngine e = linked(exporting(), importing(4, rows));
      for (int wrong = 0; wrong < 4; wrong++) {
        for (int i = 0; i < 4; i++) e.offer(0, i < wrong ? right[(turn + i) % 4] : right[(turn + i + 1) % 4]);
        Kit.due("wrong from " + wrong + " on", e.make(1), -3 - (turn + wrong) % 4);
      }
      for (int i = 0; i < 4; i++) e.offer(0, right[(turn + i) % 4]);
      Kit.due("all right", e.make(1), 1);
    }
  }

  /** Of its kind; HOST's are functions. */
  private static void kindsFit() {
    Object[][] imports = {{0, 0}, {1, 112, 0, 0}, {2, 0, 0}, {3, 127, 0}};
    int[] exports = {0, 2, 4, 5};
    for (int wanted = 0; wanted < 4; wanted++) {
      for (int given = 0; given < 4; given++)
        fits("kind " + given + " for " + wanted, given == wanted ? 1 : -3 - wanted, exports[given], imports[wanted]);
      ModuleEngine e = linked(exporting(), importing(1, "", "", Kit.bytes(imports[wanted])));
      e.offer(-1, 0);
      Kit.due("HOST's for " + wanted, e.make(1), wanted == 0 ? 1 : -3 - wanted);
    }
  }

  /** A function whose type has the same rows. */
  private static void functionsFit() {
    int[][] rows = {{}, {127}, {126}, {127, 127}, {127, 126}, {126, 127}, {112}, {111}, {125}, {124}};
    for (int[] given : rows) {
      for (int[] wanted : rows) {
        boolean same = java.util.Arrays.equals(given, wanted);
        for (int side = 0; side < 2; side++) {
          byte[] gives = side == 0 ? Kit.type(given, INT) : Kit.type(INT, given);
          byte[] wants = side == 0 ? Kit.type(wanted, INT) : Kit.type(INT, wanted);
          byte[] exporter = Kit.module(Kit.section(1, 2, Kit.type(NO, NO), gives), Kit.section(3, 1, 1), Kit.section(7, 1, "f", 0, 0),
            Kit.section(10, 1, Kit.body(0)));
          byte[] importer = Kit.module(Kit.section(1, 3, Kit.type(NO, NO), Kit.type(NO, NO), wants), Kit.section(2, 1, "", "", 0, 2));
          ModuleEngine e = linked(exporter, importer);
          e.offer(0, 0);
          Kit.due("a function of other rows on side " + side, e.make(1), same ? 1 : -3);
        }
      }
    }
    fits("parameters are not results", -3, 9, 0, 1);
  }

  private static byte[] distinct(int t) {
    return Kit.type(new int[] {KINDS[t % 6], KINDS[t / 6 % 6], KINDS[t / 36 % 6], KINDS[t / 216 % 6]}, NO);
  }

  private static byte[] sixtyFour(int from) {
    byte[] types = {};
    for (int t = from; t < from + 64; t++) types = Kit.bytes(types, distinct(t));
    return Kit.section(1, 64L, types);
  }

  /** 16 modules of 64 types each, all of them different, and many more that were refused: types are told apart to the last. */
  private static void typesOfAllModules() {
    ModuleEngine e = new ModuleEngine();
    for (int i = 0; i < 15; i++) {
      Kit.due("refused", Kit.load(e, Kit.module(sixtyFour(1100 - i), Kit.section(8, 0))), -1);
      Kit.due("module " + i, Kit.load(e, Kit.module(sixtyFour(64 * i), Kit.section(2, 1, "", "", 0, 63))), i);
    }
    byte[] call = Kit.body(32, 0, 32, 1, 32, 2, 32, 3, 65, 0, 17, 63, 0);
    byte[] last = Kit.module(sixtyFour(960), Kit.section(3, 3, 63, 62, 0), Kit.section(4, 1, 112, 0, 2), Kit.section(7, 3, "a", 0, 0, "b", 0, 1, "c", 0, 2),
      Kit.section(9, 1, 0, 65, 0, 11, 2, 0, 1), Kit.section(10, 3, call, Kit.body(), Kit.body(0)));
    Kit.due("refused", Kit.load(e, Kit.module(sixtyFour(1200), Kit.section(8, 0))), -1);
    Kit.due("the last module", Kit.load(e, last), 15);
    Kit.due("its instance", e.make(15), 0);
    for (int k = 0; k < 3; k++) {
      e.offer(0, k);
      Kit.due("function " + k + " of the last for an import of the first", e.make(0), -3);
    }
    for (int i = 0; i < 4; i++) e.argument(-1);
    Kit.due("called", e.call(0, 0), true);
    e.run(6);
    Kit.due("which calls itself by the table", e.state(3), 2);
    e.run(100000);
    Kit.due("up to the end", e.state(0), 4);
    Kit.due("without a trap", e.state(1), 0);
  }

  private static byte[] limits(long least, long greatest) {
    return greatest < 0 ? Kit.bytes(0, least) : Kit.bytes(1, least, greatest);
  }

  private static boolean suits(long size, long greatest, long least, long asked) {
    return size >= least && (asked < 0 || greatest >= 0 && greatest <= asked);
  }

  /** A table of its type that has now at least the least, and, if a greatest is asked, was made with a greatest that is not above it. */
  private static void tablesFit() {
    long[] greatest = {-1, 3, 4, 5, 4294967295L};
    for (long g : greatest) {
      byte[] exporter = Kit.module(Kit.section(4, 1, 112, limits(3, g)), Kit.section(7, 1, "t", 1, 0));
      for (long least = 2; least < 5; least++) {
        for (long asked : greatest) {
          if (asked >= 0 && asked < least) continue;
          ModuleEngine e = linked(exporter, importing(1, "", "", 1, 112, limits(least, asked)));
          e.offer(0, 0);
          Kit.due("a table of 3 up to " + g + " for " + least + " up to " + asked, e.make(1), suits(3, g, least, asked) ? 1 : -4);
        }
      }
    }
    fits("of the other type", -4, 2, 1, 111, 0, 0);
    fits("of the other type, too", -4, 3, 1, 112, 0, 0);
    byte[] nothing = Kit.module(Kit.section(4, 1, 112, 1, 0, 0), Kit.section(7, 1, "t", 1, 0));
    for (long asked : new long[] {-1, 0, 1}) {
      ModuleEngine e = linked(nothing, importing(1, "", "", 1, 112, limits(0, asked)));
      e.offer(0, 0);
      Kit.due("a table of nothing, ever, for " + asked, e.make(1), 1);
    }
    byte[] endless = Kit.module(Kit.section(4, 1, 112, 0, 0), Kit.section(7, 1, "t", 1, 0));
    for (long asked : new long[] {0, 1, 4294967295L}) {
      ModuleEngine e = linked(endless, importing(1, "", "", 1, 112, limits(0, asked)));
      e.offer(0, 0);
      Kit.due("a table without a greatest for " + asked, e.make(1), -4);
    }
    ModuleEngine e = linked(exporting(), importing(1, "", "", 1, 112, 0, 3));
    e.offer(0, 2);
    Kit.due("not yet", e.make(1), -4);
    Kit.run(e, 0, 10);
    e.offer(0, 2);
    Kit.due("now it has", e.make(1), 1);
  }

  /** Or a memory, likewise. */
  private static void memoriesFit() {
    long[] greatest = {-1, 2, 3, 4, 65536};
    for (long g : greatest) {
      byte[] exporter = Kit.module(Kit.section(5, 1, limits(2, g)), Kit.section(7, 1, "m", 2, 0));
      for (long least = 1; least < 4; least++) {
        for (long asked : greatest) {
          if (asked >= 0 && asked < least) continue;
          ModuleEngine e = linked(exporter, importing(1, "", "", 2, limits(least, asked)));
          e.offer(0, 0);
          Kit.due("a memory of 2 up to " + g + " for " + least + " up to " + asked, e.make(1), suits(2, g, least, asked) ? 1 : -5);
        }
      }
    }
    byte[] nothing = Kit.module(Kit.section(5, 1, 1, 0, 0), Kit.section(7, 1, "m", 2, 0));
    for (long asked : new long[] {-1, 0, 1}) {
      ModuleEngine e = linked(nothing, importing(1, "", "", 2, limits(0, asked)));
      e.offer(0, 0);
      Kit.due("a memory of nothing, ever, for " + asked, e.make(1), 1);
    }
    ModuleEngine e = linked(exporting(), importing(1, "", "", 2, 0, 2));
    e.offer(0, 4);
    Kit.due("not yet", e.make(1), -5);
    Kit.run(e, 0, 9);
    e.offer(0, 4);
    Kit.due("now it has", e.make(1), 1);
    fits("the greatest it was made with, not what it has", -5, 4, 2, 1, 1, 2);
  }

  /** For each import, in order: each has limits and types of its own. */
  private static void limitsOfEachImport() {
    byte[] exporter = Kit.module(Kit.section(1, 2, Kit.type(NO, NO), Kit.type(INT, NO)), Kit.section(3, 2, 0, 1),
      Kit.section(4, 3, 112, 1, 1, 4, 111, 1, 2, 5, 112, 0, 3), Kit.section(6, 3, 127, 0, 65, 1, 11, 126, 1, 66, 2, 11, 124, 0, 68, new int[8], 11),
      Kit.section(7, 8, "a", 1, 0, "b", 1, 1, "c", 1, 2, "d", 3, 0, "e", 3, 1, "f", 3, 2, "g", 0, 0, "h", 0, 1),
      Kit.section(10, 2, Kit.body(), Kit.body()));
    byte[] importer = Kit.module(Kit.section(1, 2, Kit.type(INT, NO), Kit.type(NO, NO)), Kit.section(2, 8, "", "", 1, 112, 0, 3, "", "", 3, 124, 0,
      "", "", 1, 111, 1, 2, 5, "", "", 0, 0, "", "", 1, 112, 1, 1, 4, "", "", 3, 126, 1, "", "", 0, 1, "", "", 3, 127, 0),
      Kit.section(7, 8, "a", 1, 0, "b", 1, 1, "c", 1, 2, "d", 3, 0, "e", 3, 1, "f", 3, 2, "g", 0, 0, "h", 0, 1));
    int[] right = {2, 5, 1, 7, 0, 4, 6, 3};
    ModuleEngine e = linked(exporter, importer);
    for (int k : right) e.offer(0, k);
    Kit.due("each its own", e.make(1), 1);
    int[] numbers = {2, 1, 0, 2, 1, 0, 1, 0};
    for (int k = 0; k < 8; k++) Kit.due("number of export " + k, e.export(1, k, 1), numbers[k]);
    int[] kinds = {1, 3, 1, 0, 1, 3, 0, 3};
    for (int i = 0; i < 8; i++) {
      for (int other = 0; other < 8; other++) {
        if (kinds[i] != kinds[other] || i == other) continue;
        for (int k = 0; k < 8; k++) e.offer(0, right[k == i ? other : k]);
        Kit.due("offer " + other + " for import " + i, e.make(1), -3 - kinds[i]);
      }
    }
  }

  /** A global of the same type, that can change just if the import can. */
  private static void globalsFit() {
    for (int given = 0; given < 12; given++) {
      byte[] constant = given / 2 < 4 ? Kit.constant(KINDS[given / 2], 1) : Kit.bytes(208, KINDS[given / 2]);
      byte[] exporter = Kit.module(Kit.section(6, 1, KINDS[given / 2], given % 2, constant, 11), Kit.section(7, 1, "g", 3, 0));
      for (int wanted = 0; wanted < 12; wanted++) {
        ModuleEngine e = linked(exporter, importing(1, "", "", 3, KINDS[wanted / 2], wanted % 2));
        e.offer(0, 0);
        Kit.due("global " + given + " for " + wanted, e.make(1), given == wanted ? 1 : -6);
      }
    }
  }

  /** Each import that HOST gives is a function more of the store, of the import's type. */
  private static void hostsFunctions() {
    byte[] m = Kit.module(Kit.section(1, 3, Kit.type(NO, NO), Kit.type(INT, new int[] {126, 126}), Kit.type(new int[] {111, 112}, NO)),
      Kit.section(2, 3, "", "", 0, 1, "", "", 0, 2, "", "", 0, 1), Kit.section(7, 3, "a", 0, 0, "b", 0, 1, "c", 0, 2));
    ModuleEngine e = loaded(m);
    for (int i = 0; i < 3; i++) e.offer(-1, 7);
    Kit.due("the same of HOST's for all", e.make(0), 0);
    Kit.due("a function more for each", e.state(7), 3);
    int[] parameters = {1, 2, 1};
    int[] results = {2, 0, 2};
    for (int k = 0; k < 3; k++) {
      Kit.due("its number", e.export(0, k, 1), k);
      Kit.due("its parameters", e.export(0, k, 2), parameters[k]);
      Kit.due("its results", e.export(0, k, 3), results[k]);
    }
    e.offer(0, 2);
    e.offer(-1, 63);
    e.offer(0, 0);
    Kit.due("one of HOST's, and two that there are", e.make(0), 1);
    Kit.due("one function more", e.state(7), 4);
    int[] numbers = {2, 3, 0};
    for (int k = 0; k < 3; k++) Kit.due("its number", e.export(1, k, 1), numbers[k]);
    e.offer(0, 0);
    e.offer(0, 0);
    e.offer(0, 0);
    Kit.due("its type is the import's", e.make(0), -3);
  }

  /** Then its own functions, tables, memories, globals come into the store, in this order, each in order. */
  private static void orderInTheStore() {
    byte[] m = Kit.module(Kit.section(1, 2, Kit.type(NO, NO), Kit.type(INT, NO)), Kit.section(2, 2, "", "", 0, 0, "", "", 0, 1), Kit.section(3, 2, 0, 1),
      Kit.section(4, 2, 112, 0, 1, 111, 0, 2), Kit.section(5, 1, 0, 1), Kit.section(6, 2, 127, 0, 65, 1, 11, 112, 0, 210, 3, 11),
      Kit.section(7, 9, "a", 0, 0, "b", 0, 1, "c", 0, 2, "d", 0, 3, "t", 1, 0, "u", 1, 1, "m", 2, 0, "g", 3, 0, "h", 3, 1),
      Kit.section(10, 2, Kit.body(), Kit.body()));
    ModuleEngine e = loaded(m);
    for (int i = 0; i < 3; i++) {
      e.offer(-1, 1);
      e.offer(-1, 2);
      Kit.due("instance", e.make(0), i);
      int[] numbers = {4 * i, 4 * i + 1, 4 * i + 2, 4 * i + 3, 2 * i, 2 * i + 1, i, 2 * i, 2 * i + 1};
      for (int k = 0; k < 9; k++) Kit.due("number of export " + k, e.export(i, k, 1), numbers[k]);
      Kit.due("a function's number in the store", e.global(i, 8), 4 * i + 3);
      Kit.due("a table's entries", e.export(i, 5, 4), 2);
      Kit.due("all -1", e.table(i, 5, 1), -1);
      Kit.due("pages", e.export(i, 6, 4), 1);
      Kit.due("all 0", e.memory(i, 6, 65535), 0);
    }
  }

  /** Globals have what their expressions give. */
  private static void valuesOfGlobals() {
    byte[] first = Kit.module(Kit.section(6, 4, 127, 0, 65, 127, 11, 126, 0, 66, Kit.signed(Long.MIN_VALUE), 11, 125, 0, 67, 1, 0, 128, 255, 11,
      124, 0, 68, 1, 0, 0, 0, 0, 0, 240, 255, 11), Kit.section(7, 4, "a", 3, 0, "b", 3, 1, "c", 3, 2, "d", 3, 3));
    byte[] second = Kit.module(Kit.section(2, 4, "", "", 3, 127, 0, "", "", 3, 126, 0, "", "", 3, 125, 0, "", "", 3, 124, 0),
      Kit.section(6, 4, 124, 1, 35, 3, 11, 125, 1, 35, 2, 11, 126, 1, 35, 1, 11, 127, 1, 35, 0, 11),
      Kit.section(7, 4, "a", 3, 4, "b", 3, 5, "c", 3, 6, "d", 3, 7));
    ModuleEngine e = linked(first, second);
    long[] values = {0xffffffffL, Long.MIN_VALUE, 0xff800001L, 0xfff0000000000001L};
    for (int k = 0; k < 4; k++) Kit.due("global " + k, e.global(0, k), values[k]);
    for (int k = 0; k < 4; k++) e.offer(0, k);
    Kit.due("make", e.make(1), 1);
    for (int k = 0; k < 4; k++) Kit.due("global " + k + " of an imported one", e.global(1, k), values[3 - k]);
    for (int k = 0; k < 4; k++) Kit.due("its number", e.export(1, k, 1), 4 + k);
  }

  /** Elements, too: functions by their numbers in the store, none, imported globals. */
  private static void referencesOfElements() {
    byte[] m = Kit.module(Kit.section(1, 1, Kit.type(NO, NO)), Kit.section(2, 3, "", "", 0, 0, "", "", 3, 112, 0, "", "", 3, 111, 0), Kit.section(3, 2, 0, 0),
      Kit.section(4, 2, 112, 0, 8, 111, 0, 2), Kit.section(7, 3, "t", 1, 0, "u", 1, 1, "f", 0, 2),
      Kit.section(9, 3, 0, 65, 0, 11, 3, 2, 0, 1, 4, 65, 4, 11, 4, 210, 1, 11, 208, 112, 11, 35, 0, 11, 210, 2, 11, 6, 1, 65, 1, 11, 111, 1, 35, 1, 11),
      Kit.section(10, 2, Kit.body(), Kit.body()));
    byte[] globals = Kit.module(Kit.section(1, 1, Kit.type(NO, NO)), Kit.section(3, 5, Kit.times(5, 0)),
      Kit.section(6, 2, 112, 0, 210, 4, 11, 111, 0, 208, 111, 11), Kit.section(7, 2, "g", 3, 0, "h", 3, 1),
      Kit.section(10, 5, Kit.times(5, Kit.body())));
    ModuleEngine e = linked(globals, m);
    e.offer(-1, 3);
    e.offer(0, 0);
    e.offer(0, 1);
    Kit.due("make", e.make(1), 1);
    int[] want = {7, 5, 6, -1, 6, -1, 4, 7};
    for (int i = 0; i < 8; i++) Kit.due("entry " + i, e.table(1, 0, i), want[i]);
    Kit.due("from outside", e.table(1, 1, 1), -1);
    Kit.due("its function", e.export(1, 2, 1), 7);
  }

  private static final long[] FAR = {2147483647, 2147483648L, 4294967294L, 4294967295L};

  /** ACTIVE elements are copied to their tables: beyond its end TRAP 6, also of none that begins beyond it. */
  private static void placesOfElements() {
    for (int n = 0; n < 4; n++) {
      byte[] row = Kit.times(n, 0);
      for (int size = 0; size < 5; size++) {
        for (long place = 0; place < 7; place++) elementAt(size, place, n, row);
        for (long place : FAR) elementAt(size, place, n, row);
      }
    }
  }

  private static void elementAt(int size, long place, int n, byte[] row) {
    byte[] m = Kit.module(Kit.section(1, 1, Kit.type(NO, NO)), Kit.section(3, 1, 0), Kit.section(4, 2, 111, 0, 9, 112, 0, size), Kit.section(7, 1, "t", 1, 1),
      Kit.section(9, 1, 2, 1, Kit.constant(127, place), 11, 0, n, row), Kit.section(10, 1, Kit.body()));
    ModuleEngine e = loaded(m);
    Kit.due("make", e.make(0), 0);
    boolean trap = place + n > size;
    String what = n + " at " + place + " of " + size;
    Kit.due(what + ": state", e.state(0), trap ? 3 : 0);
    Kit.due(what + ": trap", e.state(1), trap ? 6 : 0);
    for (int i = 0; i < size; i++) Kit.due(what + ": entry " + i, e.table(0, 0, i), !trap && i >= place && i < place + n ? 0 : -1);
  }

  /** Then ACTIVE data likewise to the memory: TRAP 5. */
  private static void placesOfData() {
    for (int n = 0; n < 4; n++) {
      for (long place = 65530; place < 65540; place++) dataAt(1, place, n);
      for (long place : FAR) dataAt(1, place, n);
      for (long place = 0; place < 2; place++) dataAt(0, place, n);
      for (long place = 131068; place < 131075; place++) dataAt(2, place, n);
      dataAt(2, 65534, n);
    }
    byte[] far = Kit.module(Kit.section(5, 1, 0, 2), Kit.section(7, 1, "m", 2, 0), Kit.section(11, 1, 0, Kit.constant(127, 65000), 11, 1000L, Kit.times(500, 7, 8)));
    ModuleEngine e = loaded(far);
    e.make(0);
    for (int i = 65000; i < 66000; i += 37) Kit.due("byte " + i, e.memory(0, 0, i), i % 2 == 0 ? 7 : 8);
    Kit.due("behind them", e.memory(0, 0, 66000), 0);
  }

  private static void dataAt(int pages, long place, int n) {
    byte[] m = Kit.module(Kit.section(5, 1, 0, pages), Kit.section(7, 1, "m", 2, 0),
      Kit.section(11, 1, 0, Kit.constant(127, place), 11, n, Kit.times(n, 77)));
    ModuleEngine e = loaded(m);
    Kit.due("make", e.make(0), 0);
    boolean trap = place + n > pages * 65536L;
    String what = n + " at " + place + " of " + pages + " pages";
    Kit.due(what + ": state", e.state(0), trap ? 3 : 0);
    Kit.due(what + ": trap", e.state(1), trap ? 5 : 0);
    for (int i = Math.max(0, pages * 65536 - 6); i < pages * 65536; i++)
      Kit.due(what + ": byte " + i, e.memory(0, 0, i), !trap && i >= place && i < place + n ? 77 : 0);
  }

  /** Functions 0 to 5 of the module, exported in this order: each copies one of the segment with its number. */
  private static byte[] segments(int place, int dataPlace) {
    byte[] bodies = {};
    for (int i = 0; i < 4; i++) bodies = Kit.bytes(bodies, Kit.body(65, 3, 65, 0, 65, 1, 252, 12, i, 0));
    for (int i = 0; i < 4; i++) bodies = Kit.bytes(bodies, Kit.body(65, 3, 65, 0, 65, 1, 252, 8, i, 0));
    return Kit.module(Kit.section(1, 1, Kit.type(NO, NO)), Kit.section(3, 8, Kit.times(8, 0)), Kit.section(4, 1, 112, 0, 4), Kit.section(5, 1, 0, 1),
      Kit.section(7, 10, "a", 0, 0, "b", 0, 1, "c", 0, 2, "d", 0, 3, "e", 0, 4, "f", 0, 5, "g", 0, 6, "h", 0, 7, "t", 1, 0, "m", 2, 0),
      Kit.section(9, 4, 3, 0, 1, 1, 1, 0, 1, 2, 0, 65, place, 11, 1, 3, 3, 0, 1, 4), Kit.section(12, 4), Kit.section(10, 8, bodies),
      Kit.section(11, 4, 1, 1, 9, 0, 65, 0, 11, 1, 10, 0, 65, 128 | dataPlace, 128, 4, 11, 1, 11, 0, 65, 1, 11, 1, 12));
  }

  /** Whether each of the eight functions finds its segment still there. */
  private static void keeps(String what, ModuleEngine e, int... there) {
    for (int k = 0; k < 8; k++) {
      Kit.run(e, 0, k);
      Kit.due(what + ": segment " + k, e.state(0), there[k] == 1 ? 2 : 3);
      if (there[k] == 0) Kit.due(what + ": trap " + k, e.state(1), k < 4 ? 6 : 5);
    }
  }

  /** These and DECLARED ones are DROPPED (have nothing any more); PASSIVE ones are not. */
  private static void dropped() {
    byte[] m = Kit.bytes(segments(0, 0));
    ModuleEngine e = loaded(Kit.module());
    Kit.due("data beyond the end in this one", Kit.load(e, m), 1);
    Kit.due("make", e.make(1), 0);
    Kit.due("trapped by data", e.state(1), 5);
    keeps("elements are dropped, data to the first trap", e, 0, 1, 0, 0, 1, 0, 1, 1);
    byte[] active = Kit.module(Kit.section(1, 1, Kit.type(NO, NO)), Kit.section(3, 1, 0), Kit.section(5, 1, 0, 1), Kit.section(7, 1, "f", 0, 0),
      Kit.section(12, 1), Kit.section(10, 1, Kit.body(65, 3, 65, 0, 65, 1, 252, 8, 0, 0)), Kit.section(11, 1, 0, 65, 0, 11, 1, 9));
    e = loaded(active);
    e.make(0);
    Kit.run(e, 0, 0);
    Kit.due("active data are dropped", e.state(1), 5);
  }

  /** The first TRAP ends that: what was copied stays, that element and what comes behind it (DECLARED ones, too) keep what they have. */
  private static void firstTrapOfElements() {
    ModuleEngine e = loaded(segments(4, 0));
    Kit.due("make", e.make(0), 0);
    Kit.due("trapped by an element", e.state(1), 6);
    for (int i = 0; i < 4; i++) Kit.due("entry " + i, e.table(0, 8, i), -1);
    Kit.due("no data", e.memory(0, 9, 0), 0);
    keeps("the first, declared one is dropped", e, 0, 1, 1, 1, 1, 1, 1, 1);
  }

  /** Likewise of data. */
  private static void firstTrapOfData() {
    ModuleEngine e = loaded(segments(3, 0));
    Kit.due("make", e.make(0), 0);
    Kit.due("trapped by a data", e.state(1), 5);
    Kit.due("the element was copied", e.table(0, 8, 3), 3);
    Kit.due("the first active data, too", e.memory(0, 9, 0), 10);
    Kit.due("the next not", e.memory(0, 9, 65535), 0);
    Kit.due("nor the one behind it", e.memory(0, 9, 1), 0);
    keeps("that and those behind it", e, 0, 1, 0, 0, 1, 0, 1, 1);
  }

  /** The instance is there, the state is TRAPPED, steps are 0; no start is called. */
  private static void trapsAreTold() {
    byte[] before = Kit.simple(INT, INT, 32, 0, 65, 1, 106);
    byte[] m = Kit.module(Kit.section(1, 1, Kit.type(NO, NO)), Kit.section(3, 1, 0), Kit.section(4, 1, 112, 0, 0), Kit.section(6, 1, 127, 1, 65, 7, 11),
      Kit.section(7, 1, "g", 3, 0), Kit.section(8, 0), Kit.section(9, 1, 0, 65, 1, 11, 0), Kit.section(10, 1, Kit.body(65, 9, 36, 0)));
    ModuleEngine e = loaded(before, m);
    e.make(0);
    Kit.run(e, 0, 0, 5);
    Kit.due("a value", e.value(0), 6);
    Kit.due("its number", e.make(1), 1);
    Kit.due("state", e.state(0), 3);
    Kit.due("trap", e.state(1), 6);
    Kit.due("steps", e.state(2), 0);
    Kit.due("frames", e.state(3), 0);
    Kit.due("instances", e.state(6), 2);
    Kit.due("functions", e.state(7), 2);
    Kit.due("no value", e.value(0), 0);
    Kit.due("its global", e.global(1, 0), 7);
    Kit.due("no start", e.run(5), 0);
    Kit.due("nothing runs: another one", e.make(0), 2);
    Kit.due("state", e.state(0), 3);
    Kit.run(e, 0, 0, 8);
    Kit.due("a call then", e.value(0), 9);
  }

  /** Otherwise its function to start is called; without one what is told of the latest call stays. */
  private static void startOrNone() {
    byte[] plain = Kit.simple(INT, INT, 32, 0, 65, 1, 106);
    byte[] starts = Kit.module(Kit.section(1, 1, Kit.type(NO, NO)), Kit.section(3, 2, 0, 0), Kit.section(8, 1), Kit.section(10, 2, Kit.body(0), Kit.body(1, 1)));
    byte[] empty = Kit.module(Kit.section(1, 1, Kit.type(NO, NO)), Kit.section(3, 1, 0), Kit.section(8, 0), Kit.section(10, 1, Kit.body(2, 64, 11)));
    byte[] traps = Kit.module(Kit.section(1, 1, Kit.type(NO, NO)), Kit.section(3, 1, 0), Kit.section(8, 0), Kit.section(10, 1, Kit.body(0)));
    for (int tier = 0; tier < 2; tier++) {
      ModuleEngine e = loaded(plain, starts, empty, traps);
      e.tier(tier);
      e.make(0);
      Kit.run(e, 0, 0, 5);
      Kit.due("without one", e.make(0), 1);
      Kit.due("value", e.value(0), 6);
      Kit.due("steps", e.state(2), 3);
      Kit.due("with one", e.make(1), 2);
      Kit.due("it runs", e.state(0), 1);
      Kit.due("steps", e.state(2), 0);
      Kit.due("frames", e.state(3), 1);
      Kit.due("no value", e.value(0), 0);
      Kit.due("no other meanwhile", e.make(0), -10);
      Kit.due("its steps", e.run(9), 2);
      Kit.due("it has ended", e.state(0), 2);
      Kit.due("one without steps", e.make(2), 3);
      Kit.due("it has ended with make()", e.state(0), 2);
      Kit.due("steps", e.state(2), 0);
      Kit.due("one that traps", e.make(3), 4);
      Kit.due("not yet", e.state(0), 1);
      Kit.due("its step", e.run(9), 1);
      Kit.due("now", e.state(1), 1);
    }
  }

  /** Arguments that are there stay in any case. */
  private static void argumentsStay() {
    byte[] plain = Kit.module();
    byte[] starts = Kit.module(Kit.section(1, 1, Kit.type(NO, NO)), Kit.section(3, 1, 0), Kit.section(8, 0), Kit.section(10, 1, Kit.body(1)));
    byte[] traps = Kit.module(Kit.section(4, 1, 112, 0, 0), Kit.section(9, 1, 0, 65, 1, 11, 0));
    byte[] large = sized(0, 1, 2000, -1, 0, 0);
    ModuleEngine e = loaded(plain, starts, traps, large);
    e.argument(1);
    int[] answers = {0, 1, -10, -1, 2, -9, -1};
    int[] modules = {0, 1, 0, 9, 2, 3, 4};
    for (int i = 0; i < modules.length; i++) {
      Kit.due("make(" + modules[i] + ")", e.make(modules[i]), answers[i]);
      Kit.due("arguments stay", e.argument(1), i + 2);
      if (i == 3) e.run(9);
    }
  }

  /** Tables and memories that are imported have it, too. */
  private static void copiedToImports() {
    byte[] importer = Kit.module(Kit.section(1, 1, Kit.type(NO, NO)), Kit.section(2, 2, "", "", 1, 112, 0, 2, "", "", 2, 0, 1), Kit.section(3, 1, 0),
      Kit.section(9, 1, 0, 65, 1, 11, 1, 0), Kit.section(10, 1, Kit.body()), Kit.section(11, 1, 0, 65, 3, 11, 1, 66));
    ModuleEngine e = linked(exporting(), importer);
    e.offer(0, 2);
    e.offer(0, 4);
    Kit.due("make", e.make(1), 1);
    Kit.due("its entry", e.table(0, 2, 1), 4);
    Kit.due("its byte", e.memory(0, 4, 3), 66);
    e.offer(0, 2);
    e.offer(0, 4);
    Kit.due("once more", e.make(1), 2);
    Kit.due("its entry is another function", e.table(0, 2, 1), 5);
    byte[] beyond = Kit.module(Kit.section(2, 1, "", "", 1, 112, 0, 0), Kit.section(9, 1, 4, 65, 2, 11, 1, 208, 112, 11));
    Kit.due("module", Kit.load(e, beyond), 2);
    e.offer(0, 2);
    Kit.due("as large as it is now", e.make(2), 3);
    Kit.due("which is too small", e.state(1), 6);
    Kit.run(e, 0, 10);
    e.offer(0, 2);
    Kit.due("as large as it is now", e.make(2), 4);
    Kit.due("which is large enough", e.state(0), 2);
  }

  /** 64 that are imported, and as many others as the store has room for: the last of each is used. */
  private static void lastNumbers() {
    byte[] first = Kit.module(Kit.section(1, 1, Kit.type(NO, INT)), Kit.section(3, 1, 0), Kit.section(4, 1, 111, 0, 1), Kit.section(6, 1, 127, 1, 65, 5, 11),
      Kit.section(7, 3, "f", 0, 0, "t", 1, 0, "g", 3, 0), Kit.section(10, 1, Kit.body(65, 6)));
    byte[] functions = Kit.module(Kit.section(1, 1, Kit.type(NO, INT)), Kit.section(2, 64L, Kit.times(64, "", "", 0, 0)), Kit.section(3, 64L, Kit.times(64, 0)),
      Kit.section(4, 1, 112, 0, 2), Kit.section(7, 3, "a", 0, 127L, "b", 0, 126L, "t", 1, 0), Kit.section(9, 1, 4, 65, 1, 11, 1, 210, 127L, 11),
      Kit.section(10, 64L, Kit.times(61, Kit.body(0)), Kit.body(65, 41), Kit.body(16, 63, 16, 125L, 106), Kit.body(65, 7)));
    byte[] tables = Kit.module(Kit.section(1, 1, Kit.type(INT, INT)), Kit.section(2, 64L, Kit.times(64, "", "", 1, 111, 0, 0)), Kit.section(3, 1, 0),
      Kit.section(4, 30L, Kit.times(29, 111, 0, 1), 112, 0, 3), Kit.section(7, 2, "f", 0, 0, "t", 1, 93),
      Kit.section(9, 1, 2, 93, 65, 2, 11, 0, 1, 0), Kit.section(10, 1, Kit.body(32, 0, 210, 0, 38, 93, 32, 0, 37, 93, 209, 252, 16, 93, 106)));
    byte[] globals = Kit.module(Kit.section(1, 1, Kit.type(INT, INT)), Kit.section(2, 64L, Kit.times(64, "", "", 3, 127, 1)), Kit.section(3, 1, 0),
      Kit.section(6, 64L, Kit.times(63, 127, 0, 65, 0, 11), 127, 1, 65, 9, 11), Kit.section(7, 2, "f", 0, 0, "g", 3, 127L),
      Kit.section(10, 1, Kit.body(35, 127L, 35, 63, 106, 32, 0, 36, 127L, 32, 0, 36, 63)));
    for (int tier = 0; tier < 2; tier++) {
      ModuleEngine e = loaded(first, functions, tables, globals);
      e.tier(tier);
      e.make(0);
      int[] exports = {0, 1, 2};
      for (int module = 1; module < 4; module++) {
        for (int i = 1; i <= 64; i++) Kit.due("offer", e.offer(0, exports[module - 1]), i);
        Kit.due("instance", e.make(module), module);
      }
      Kit.due("functions", e.state(7), 1 + 64 + 1 + 1);
      Kit.run(e, 1, 0);
      Kit.due("function 127", e.value(0), 7);
      Kit.run(e, 1, 1);
      Kit.due("function 126, which calls 63 and 125", e.value(0), 47);
      Kit.due("function 127 in the table", e.table(1, 2, 1), 64);
      Kit.due("table 93", e.table(2, 1, 2), 65);
      Kit.run(e, 2, 0, 1);
      Kit.due("its size, and no none in it", e.value(0), 3);
      Kit.due("set", e.table(2, 1, 1), 65);
      Kit.run(e, 3, 0, 33);
      Kit.due("globals 127 and 63", e.value(0), 14);
      Kit.due("global 127", e.global(3, 1), 33);
      Kit.due("global 63 is the first one's", e.global(0, 2), 33);
    }
  }
}
