/**
 * The promises 1 to 19, sentence by sentence, where they name an edge: the last that is taken, the first that is
 * refused, and that a refused call does nothing, in each of the states 0 to 6.
 */
public final class EdgesOfFaceTest {
  private static final int[] NO = {};
  private static final int[] INT = {127};
  private static final int ASK = 0;
  private static final int LOOP = 1;
  private static final int TRAP = 2;
  private static final int DEEP = 3;
  private static final int SWAP = 4;
  private static final int NEXT = 5;
  private static final int TABLE = 6;
  private static final int OTHER_TABLE = 7;
  private static final int MEMORY = 8;
  private static final int GLOBAL = 9;
  private static final int FIXED = 10;
  private static final int HOST = 11;
  private static final int EXPORTS = 12;

  public static void main(String[] args) {
    states();
    newObject();
    feedCounts();
    feedHighestFirst();
    feedEver();
    moduleOfFirstBytes();
    moduleNumbers();
    moduleRefuses();
    moduleSixteen();
    faultOfLatest();
    faultOfAnother();
    offerOfHost();
    offerOfExports();
    offerSixtyFour();
    offerWhileRunning();
    makeWithoutModule();
    makeWhileRunning();
    makeTakesOffers();
    argumentSixteen();
    argumentBits();
    callOfNoFunction();
    callWithOtherCount();
    callWithReferences();
    callWhileRunning();
    callTakesArguments();
    runOfNothing();
    runBounds();
    giveOfNothing();
    giveOfWhatRuns();
    answerUnasked();
    answerWithOthers();
    answerReferences();
    stateOfOthers();
    stateTrapsAndSteps();
    valueBounds();
    tierBounds();
    exportBounds();
    memoryBounds();
    pokeBounds();
    tableBounds();
    globalBounds();
    Kit.finish();
  }

  private static byte[] world() {
    return Kit.module(
      Kit.section(1, 3, Kit.type(NO, NO), Kit.type(INT, INT), Kit.type(new int[] {112, 111}, new int[] {111, 112})),
      Kit.section(2, 1, "h", "h", 0, 1), Kit.section(3, 6, 1, 0, 0, 0, 2, 1),
      Kit.section(4, 2, 112, 1, 2, 4, 111, 0, 3), Kit.section(5, 1, 1, 1, 2),
      Kit.section(6, 2, 127, 1, 65, 7, 11, 126, 0, 66, 127, 11),
      Kit.section(7, 12, "a", 0, 1, "b", 0, 2, "c", 0, 3, "d", 0, 4, "e", 0, 5, "f", 0, 6, "t", 1, 0, "u", 1, 1, "m", 2, 0, "g", 3, 0, "i", 3, 1,
        "h", 0, 0),
      Kit.section(10, 6, Kit.body(32, 0, 16, 0), Kit.body(3, 64, 12, 0, 11), Kit.body(0), Kit.body(16, 4), Kit.body(32, 1, 32, 0),
        Kit.body(32, 0, 65, 1, 106)));
  }

  /** An engine in a state, with a module, an instance, an argument, an offer and twenty bytes on its tape. */
  private static ModuleEngine in(int state) {
    ModuleEngine e = bare(state);
    e.argument(55);
    e.offer(-1, 4);
    e.feed(1, 2, 3, 4, 5);
    return e;
  }

  private static ModuleEngine bare(int state) {
    ModuleEngine e = new ModuleEngine();
    Kit.load(e, world());
    e.offer(-1, 9);
    e.make(0);
    if (state == 1 || state == 6) e.call(0, LOOP);
    if (state == 2 || state == 5) e.argument(41);
    if (state == 2) e.call(0, NEXT);
    if (state == 3) e.call(0, TRAP);
    if (state == 4) e.call(0, DEEP);
    if (state == 5) e.call(0, ASK);
    e.run(state == 1 || state == 6 ? 3 : 1000);
    if (state == 6) e.give();
    return e;
  }

  private static void refusedInAll(String what, Kit.Call call, long want) {
    for (int s = 0; s <= 6; s++) {
      int state = s;
      Kit.refused(what + " in state " + s, () -> in(state), call, want);
    }
  }

  private static boolean busy(int state) { return state == 1 || state == 5; }

  private static void states() {
    for (int s = 0; s <= 6; s++) Kit.due("the state that the others begin with", in(s).state(0), s);
  }

  /** No modules, no store, an empty tape. */
  private static void newObject() {
    ModuleEngine e = new ModuleEngine();
    int[] want = {-1, 0, 0, 0, 0, -1, 0, 0, 0, 8, 1024, 0, 0, 0, -1};
    for (int w = -1; w < 14; w++) Kit.due("state(" + w + ") of a new object", e.state(w), want[w + 1]);
    Kit.due("no module", e.make(0), -1);
    Kit.due("no bytes", e.module(1), -2);
    Kit.due("an empty tape is no module", e.module(0), -1);
  }

  /** Twenty bytes come behind those on the tape: how many there are. */
  private static void feedCounts() {
    ModuleEngine e = new ModuleEngine();
    Kit.due("the first", e.feed(0, 0, 0, 0, 0), 20);
    Kit.due("the next", e.feed(0, 0, 0, 0, 0), 40);
    e.module(5);
    Kit.due("behind a module", e.feed(0, 0, 0, 0, 0), 20);
    Kit.due("and the next", e.feed(0, 0, 0, 0, 0), 40);
    Kit.due("on the tape", e.state(10), 40);
    Kit.due("no more than these", e.module(41), -2);
    Kit.due("just these", e.module(40), -1);
    Kit.due("of which the first is wrong in its second byte", e.fault(1), 1);
  }

  /** Four of each number, the highest first. */
  private static void feedHighestFirst() {
    byte[] m = Kit.bytes(Kit.module(), 0, 10, "abcdefghi");
    Kit.due("just twenty bytes", m.length, 20);
    for (int i = 0; i < 8; i++) {
      byte[] wrong = m.clone();
      wrong[i] = (byte) 255;
      ModuleEngine e = new ModuleEngine();
      Kit.due("byte " + i, Kit.load(e, wrong), -1);
      Kit.due("its place", e.fault(1), i);
    }
    for (int i = 11; i < 20; i++) {
      byte[] wrong = m.clone();
      wrong[i] = (byte) 255;
      ModuleEngine e = new ModuleEngine();
      Kit.due("byte " + i, Kit.load(e, wrong), -1);
      Kit.due("its fault", e.fault(0), 9);
      Kit.due("its place", e.fault(1), i);
    }
    Kit.due("all right", Kit.load(new ModuleEngine(), m), 0);
  }

  /** -1, doing nothing, when more than 40,960 would have been fed, ever. */
  private static void feedEver() {
    ModuleEngine e = new ModuleEngine();
    for (int i = 1; i <= 2047; i++) {
      e.feed(0, 0, 0, 0, 0);
      if (i % 100 == 0) e.module(3);
    }
    Kit.due("40,960 in all", e.feed(0, 0, 0, 0, 0), 2048 * 20 - 2000 * 20);
    Kit.due("more", e.feed(0, 0, 0, 0, 0), -1);
    Kit.due("does nothing", e.state(10), 960);
    Kit.due("the tape can still be read", e.module(960), -1);
    Kit.due("and is empty", e.state(10), 0);
    Kit.due("ever", e.feed(0, 0, 0, 0, 0), -1);
    Kit.due("empty still", e.state(10), 0);
  }

  /** The first n bytes of the tape are read; the tape is empty then, behind them, too, and with a fault. */
  private static void moduleOfFirstBytes() {
    ModuleEngine e = new ModuleEngine();
    byte[] m = Kit.bytes(Kit.module(), 3, 1, 0, 4, 1, 0, 255);
    Kit.feed(e, m);
    Kit.due("14 of them", e.module(14), 0);
    Kit.due("empty, behind them, too", e.state(10), 0);
    Kit.feed(e, m);
    Kit.due("15 of them", e.module(15), -1);
    Kit.due("fault", e.fault(0), 6);
    Kit.due("place", e.fault(1), 14);
    Kit.due("empty with a fault", e.state(10), 0);
    Kit.feed(e, m);
    Kit.due("13 of them", e.module(13), -1);
    Kit.due("fault", e.fault(0), 2);
    Kit.due("place", e.fault(1), 12);
    Kit.feed(e, m);
    Kit.due("12 of them", e.module(12), -1);
    Kit.due("fault", e.fault(0), 1);
    Kit.due("place", e.fault(1), 12);
    Kit.feed(e, m);
    Kit.due("0 of them", e.module(0), -1);
    Kit.due("fault", e.fault(0), 1);
    Kit.due("place", e.fault(1), 0);
    Kit.due("a tape of nothing", e.module(0), -1);
  }

  /** The module's number from 0 on, or -1: a fault. */
  private static void moduleNumbers() {
    ModuleEngine e = new ModuleEngine();
    Kit.due("the first", Kit.load(e, Kit.module()), 0);
    Kit.due("a fault", Kit.load(e, Kit.module(77)), -1);
    Kit.due("which has no number", Kit.load(e, Kit.module()), 1);
    Kit.due("modules", e.state(5), 2);
    Kit.due("the last of them", e.make(1), 0);
    Kit.due("one behind it", e.make(2), -1);
  }

  /** -2, doing nothing, when n is below 0 or more than there are. */
  private static void moduleRefuses() {
    refusedInAll("module(-1)", e -> e.module(-1), -2);
    refusedInAll("module of the least number", e -> e.module(Integer.MIN_VALUE), -2);
    refusedInAll("module(21) of 20", e -> e.module(21), -2);
    refusedInAll("module of the greatest number", e -> e.module(Integer.MAX_VALUE), -2);
    Kit.due("module(20) of 20", in(2).module(20), -1);
    Kit.due("also while something runs", in(1).module(20), -1);
  }

  /** -2, doing nothing, when there are 16 modules. */
  private static void moduleSixteen() {
    Kit.Setup sixteen = () -> {
      ModuleEngine e = in(2);
      e.module(20);
      for (int i = 1; i < 16; i++) Kit.due("module " + i, Kit.load(e, Kit.module()), i);
      Kit.feed(e, Kit.module());
      return e;
    };
    Kit.refused("a 17th module", sixteen, e -> e.module(8), -2);
    Kit.refused("a 17th module that is none", sixteen, e -> e.module(7), -2);
    Kit.refused("a 17th module of nothing", sixteen, e -> e.module(0), -2);
    Kit.due("the 16th", sixteen.get().make(15), -2);
  }

  /** Of the latest module() that was not -2: 0 its fault (0: none), 1 the place (-1 without a fault). */
  private static void faultOfLatest() {
    ModuleEngine e = new ModuleEngine();
    e.module(1);
    Kit.due("a module() of -2 is none", e.fault(0), -1);
    Kit.due("nor has it a place", e.fault(1), -1);
    Kit.load(e, Kit.module(13));
    Kit.due("a fault", e.fault(0), 6);
    Kit.due("its place", e.fault(1), 8);
    e.module(-1);
    Kit.due("still that fault", e.fault(0), 6);
    Kit.due("still its place", e.fault(1), 8);
    Kit.load(e, Kit.module());
    Kit.due("none", e.fault(0), 0);
    Kit.due("no place", e.fault(1), -1);
    e.module(1);
    Kit.due("still none", e.fault(0), 0);
    e.make(0);
    Kit.due("make() changes nothing of it", e.fault(0), 0);
  }

  /** -1 when what is another. */
  private static void faultOfAnother() {
    for (int what : new int[] {-1, 2, 3, Integer.MIN_VALUE, Integer.MAX_VALUE}) {
      ModuleEngine e = new ModuleEngine();
      Kit.due("fault(" + what + ") ahead of all modules", e.fault(what), -1);
      Kit.load(e, Kit.module(13));
      Kit.due("fault(" + what + ")", e.fault(what), -1);
    }
  }

  /** The function that HOST has with number k (0 .. 63); -1, doing nothing, when k is not 0 .. 63. */
  private static void offerOfHost() {
    Kit.due("HOST's 0", in(2).offer(-1, 0), 2);
    Kit.due("HOST's 63", in(2).offer(-1, 63), 2);
    for (int k : new int[] {-1, 64, Integer.MIN_VALUE, Integer.MAX_VALUE}) refusedInAll("HOST's " + k, e -> e.offer(-1, k), -1);
  }

  /** -1, doing nothing, when there is no such export. */
  private static void offerOfExports() {
    Kit.due("the first", in(2).offer(0, 0), 2);
    Kit.due("the last", in(2).offer(0, EXPORTS - 1), 2);
    int[][] wrong = {{0, EXPORTS}, {0, -1}, {1, 0}, {-2, 0}, {0, Integer.MAX_VALUE}, {Integer.MAX_VALUE, 0}, {Integer.MIN_VALUE, 0}, {16, 0}};
    for (int[] w : wrong) refusedInAll("offer(" + w[0] + ", " + w[1] + ")", e -> e.offer(w[0], w[1]), -1);
  }

  /** -1, doing nothing, when 64 are offered. */
  private static void offerSixtyFour() {
    Kit.Setup full = () -> {
      ModuleEngine e = in(2);
      for (int i = 2; i <= 64; i++) Kit.due("offer " + i, e.offer(i % 2 - 1, i % 8), i);
      return e;
    };
    Kit.refused("a 65th of HOST", full, e -> e.offer(-1, 1), -1);
    Kit.refused("a 65th of an instance", full, e -> e.offer(0, 1), -1);
  }

  /** Also while something runs. */
  private static void offerWhileRunning() {
    for (int s = 0; s <= 6; s++) {
      ModuleEngine e = in(s);
      Kit.due("HOST's in state " + s, e.offer(-1, 1), 2);
      Kit.due("an export in state " + s, e.offer(0, MEMORY), 3);
      Kit.due("the state stays", e.state(0), s);
    }
  }

  /** -1 no such module: offers stay. */
  private static void makeWithoutModule() {
    for (int module : new int[] {-1, 1, 16, Integer.MIN_VALUE, Integer.MAX_VALUE}) refusedInAll("make(" + module + ")", e -> e.make(module), -1);
  }

  /** -10 something runs: offers stay. */
  private static void makeWhileRunning() {
    for (int s : new int[] {1, 5}) Kit.refused("make in state " + s, () -> in(s), e -> e.make(0), -10);
    for (int s : new int[] {0, 2, 3, 4, 6}) {
      ModuleEngine e = in(s);
      Kit.due("make in state " + s, e.make(0), 1);
      Kit.due("the state stays", e.state(0), s);
    }
  }

  /** With all others they are gone: when it is made, and when it is refused; nothing is made then. */
  private static void makeTakesOffers() {
    ModuleEngine e = in(2);
    e.offer(-1, 1);
    Kit.due("one more than the imports", e.make(0), -2);
    Kit.due("they are gone", e.offer(-1, 1), 1);
    Kit.due("just as many", e.make(0), 1);
    Kit.due("they are gone", e.offer(0, NEXT), 1);
    Kit.due("a function of the same type", e.make(0), 2);
    Kit.due("no offers", e.make(0), -2);
    Kit.due("functions", e.state(7), 7 + 7 + 6);
    e.offer(0, LOOP);
    Kit.due("a function of another type", e.make(0), -3);
    Kit.due("they are gone", e.make(0), -2);
    Kit.due("nothing was made", e.state(6), 3);
    Kit.due("no functions", e.state(7), 20);
    Kit.due("no pages", e.state(8), 5);
    Kit.due("no entries", e.state(9), 1024 - 15);
  }

  /** An argument more: how many there are. -1, doing nothing, when there are 16. */
  private static void argumentSixteen() {
    for (int s = 0; s <= 6; s++) {
      int state = s;
      Kit.Setup full = () -> {
        ModuleEngine e = in(state);
        for (int i = 2; i <= 16; i++) Kit.due("argument " + i, e.argument(i), i);
        return e;
      };
      Kit.refused("a 17th argument in state " + s, full, e -> e.argument(1), -1);
    }
  }

  /** By its bits: of 32 bits those above are not looked at. */
  private static void argumentBits() {
    ModuleEngine e = bare(0);
    long[][] rows = {{0, 1}, {-1, 0}, {0xffffffffL, 0}, {0x7fffffffL, 0x80000000L}, {1L << 32, 1}, {Long.MIN_VALUE, 1}, {Long.MAX_VALUE, 0}};
    for (long[] r : rows) {
      Kit.run(e, 0, NEXT, r[0]);
      Kit.due("the next of " + r[0], e.value(0), r[1]);
    }
  }

  /** False, doing nothing, when there is none such. */
  private static void callOfNoFunction() {
    int[][] wrong = {{0, EXPORTS}, {0, -1}, {1, NEXT}, {-1, NEXT}, {0, Integer.MAX_VALUE}, {Integer.MIN_VALUE, NEXT},
      {0, TABLE}, {0, OTHER_TABLE}, {0, MEMORY}, {0, GLOBAL}, {0, FIXED}};
    for (int[] w : wrong) refusedInAll("call(" + w[0] + ", " + w[1] + ")", e -> Kit.bit(e.call(w[0], w[1])), 0);
  }

  /** False, doing nothing, when it has not as many parameters. */
  private static void callWithOtherCount() {
    refusedInAll("one argument for none", e -> Kit.bit(e.call(0, TRAP)), 0);
    refusedInAll("one argument for two", e -> Kit.bit(e.call(0, SWAP)), 0);
    for (int s = 0; s <= 6; s++) {
      int state = s;
      Kit.refused("none for one in state " + s, () -> bare(state), e -> Kit.bit(e.call(0, NEXT)), 0);
    }
    Kit.due("one for one", in(2).call(0, NEXT), true);
    Kit.due("one for one of HOST", in(2).call(0, HOST), true);
    Kit.due("none for none", bare(2).call(0, TRAP), true);
  }

  private static ModuleEngine withTwo(long one, long other) {
    ModuleEngine e = bare(2);
    e.argument(one);
    e.argument(other);
    return e;
  }

  /** False, doing nothing, when a reference is not -1 .. 2147483647 (one to a function: or of one that there is not). */
  private static void callWithReferences() {
    long[][] right = {{-1, -1}, {0, 0}, {6, 0}, {0, 2147483647}, {6, 2147483647}, {-1, 2147483647}};
    long[][] wrong = {{-2, 0}, {7, 0}, {0, -2}, {0, 2147483648L}, {2147483647, 0}, {2147483648L, 0}, {0xffffffffL, 0}, {0, 0xffffffffL},
      {Long.MIN_VALUE, 0}, {0, Long.MIN_VALUE}, {Long.MAX_VALUE, 0}, {0, Long.MAX_VALUE}, {1L << 32, 0}, {0, 1L << 32}};
    for (long[] r : right) {
      ModuleEngine e = withTwo(r[0], r[1]);
      Kit.due("references " + r[0] + ", " + r[1], e.call(0, SWAP), true);
      e.run(9);
      Kit.due("the one from outside", e.value(0), r[1]);
      Kit.due("the one to a function", e.value(1), r[0]);
    }
    for (long[] w : wrong) Kit.refused("references " + w[0] + ", " + w[1], () -> withTwo(w[0], w[1]), e -> Kit.bit(e.call(0, SWAP)), 0);
    ModuleEngine e = withTwo(7, 0);
    Kit.due("a function that there is not", e.call(0, SWAP), false);
    e.offer(-1, 1);
    Kit.due("another instance", e.make(0), 1);
    Kit.due("now there is", e.call(0, SWAP), true);
  }

  /** False, doing nothing, when something runs: states 1 and 5. */
  private static void callWhileRunning() {
    for (int s = 0; s <= 6; s++) {
      int state = s;
      if (busy(s)) Kit.refused("call in state " + s, () -> in(state), e -> Kit.bit(e.call(0, NEXT)), 0);
      else Kit.due("call in state " + s, in(s).call(0, NEXT), true);
    }
  }

  /** They are gone then. */
  private static void callTakesArguments() {
    ModuleEngine e = in(2);
    e.call(0, NEXT);
    Kit.due("gone", e.argument(1), 1);
    Kit.due("it has those that there were", e.run(9), 3);
    Kit.due("which gives", e.value(0), 56);
  }

  /** 0 when nothing runs, or HOST is ASKED. */
  private static void runOfNothing() {
    for (int n : new int[] {0, 1, 100000})
      for (int s : new int[] {0, 2, 3, 4, 5, 6}) Kit.refused("run(" + n + ") in state " + s, () -> in(s), e -> e.run(n), 0);
  }

  /** n steps, unless it stops: how many. -1 when n is not 0 .. 100,000. */
  private static void runBounds() {
    for (int n : new int[] {-1, 100001, Integer.MIN_VALUE, Integer.MAX_VALUE}) refusedInAll("run(" + n + ")", e -> e.run(n), -1);
    Kit.refused("run(0)", () -> in(1), e -> e.run(0), 0);
    Kit.due("run(1)", in(1).run(1), 1);
    Kit.due("run(99,999)", in(1).run(99999), 99999);
    ModuleEngine e = in(1);
    Kit.due("run(100,000)", e.run(100000), 100000);
    Kit.due("steps", e.state(2), 100003);
    e = bare(0);
    e.argument(1);
    e.call(0, NEXT);
    Kit.due("all but one", e.run(2), 2);
    Kit.due("it runs", e.state(0), 1);
    Kit.due("the last one", e.run(2), 1);
    Kit.due("it has ended", e.state(0), 2);
    e.argument(1);
    e.call(0, NEXT);
    Kit.due("just all", e.run(3), 3);
    Kit.due("it has ended", e.state(0), 2);
  }

  /** False when nothing does. */
  private static void giveOfNothing() {
    for (int s : new int[] {0, 2, 3, 4, 6}) Kit.refused("give in state " + s, () -> in(s), e -> Kit.bit(e.give()), 0);
  }

  /** What runs is given up: true. */
  private static void giveOfWhatRuns() {
    for (int s : new int[] {1, 5}) {
      ModuleEngine e = in(s);
      int steps = e.state(2);
      Kit.due("give in state " + s, e.give(), true);
      Kit.due("state", e.state(0), 6);
      Kit.due("steps stay", e.state(2), steps);
      Kit.due("no frames", e.state(3), 0);
      Kit.due("none asked", e.state(4), -1);
      Kit.due("no value", e.value(0), 0);
      Kit.due("arguments stay", e.argument(1), 2);
      Kit.due("offers stay", e.offer(-1, 1), 2);
      Kit.due("no answer", e.answer(), false);
      Kit.due("no steps", e.run(5), 0);
    }
  }

  /** False, doing nothing, when it isn't asked. */
  private static void answerUnasked() {
    for (int s : new int[] {0, 1, 2, 3, 4, 6}) Kit.refused("answer in state " + s, () -> in(s), e -> Kit.bit(e.answer()), 0);
  }

  /** False, doing nothing, when they are not such: as many as the results. */
  private static void answerWithOthers() {
    Kit.refused("none", () -> bare(5), e -> Kit.bit(e.answer()), 0);
    Kit.Setup two = () -> {
      ModuleEngine e = in(5);
      e.argument(1);
      return e;
    };
    Kit.refused("two", two, e -> Kit.bit(e.answer()), 0);
    ModuleEngine e = in(5);
    Kit.due("one", e.answer(), true);
    Kit.due("what is no step behind it is done", e.state(0), 2);
    Kit.due("its value", e.value(0), 55);
    Kit.due("they are gone", e.argument(1), 1);
    Kit.due("asked no more", e.answer(), false);
  }

  /** A module whose function asks HOST for two references. */
  private static ModuleEngine asking(long one, long other) {
    byte[] m = Kit.module(Kit.section(1, 1, Kit.type(NO, new int[] {112, 111})), Kit.section(2, 1, "", "", 0, 0), Kit.section(3, 1, 0),
      Kit.section(7, 1, "f", 0, 1), Kit.section(10, 1, Kit.body(16, 0)));
    ModuleEngine e = new ModuleEngine();
    Kit.load(e, m);
    e.offer(-1, 0);
    e.make(0);
    e.call(0, 0);
    e.run(1);
    e.argument(one);
    e.argument(other);
    return e;
  }

  /** References as for call(). */
  private static void answerReferences() {
    long[][] right = {{-1, -1}, {0, 0}, {1, 2147483647}};
    long[][] wrong = {{-2, 0}, {2, 0}, {0, -2}, {0, 2147483648L}, {0xffffffffL, 0}, {0, 0xffffffffL}, {1L << 32, 0}, {0, Long.MIN_VALUE}};
    for (long[] r : right) {
      ModuleEngine e = asking(r[0], r[1]);
      Kit.due("answer " + r[0] + ", " + r[1], e.answer(), true);
      Kit.due("the first", e.value(0), r[0]);
      Kit.due("the second", e.value(1), r[1]);
    }
    for (long[] w : wrong) Kit.refused("answer " + w[0] + ", " + w[1], () -> asking(w[0], w[1]), e -> Kit.bit(e.answer()), 0);
  }

  /** -1 for others. */
  private static void stateOfOthers() {
    for (int w : new int[] {-1, 13, 14, Integer.MIN_VALUE, Integer.MAX_VALUE})
      for (int s = 0; s <= 6; s++) Kit.due("state(" + w + ")", in(s).state(w), -1);
  }

  /** The latest TRAP ever; steps of the latest call; frames 0 unless something runs; -1: none is asked. */
  private static void stateTrapsAndSteps() {
    int[] traps = {0, 0, 0, 1, 0, 0, 0};
    int[] steps = {0, 3, 3, 1, 200, 2, 3};
    int[] frames = {0, 1, 0, 0, 0, 1, 0};
    for (int s = 0; s <= 6; s++) {
      ModuleEngine e = in(s);
      Kit.due("trap in state " + s, e.state(1), traps[s]);
      Kit.due("steps in state " + s, e.state(2), steps[s]);
      Kit.due("frames in state " + s, e.state(3), frames[s]);
      Kit.due("asked in state " + s, e.state(4), s == 5 ? 9 : -1);
    }
    ModuleEngine e = in(3);
    e.call(0, NEXT);
    Kit.due("steps of a call that has just begun", e.state(2), 0);
    Kit.due("the latest trap is still there", e.state(1), 1);
    e.run(9);
    Kit.due("also when that has ended", e.state(1), 1);
  }

  /** 0 when there is none (so in all states but 2 and 5). */
  private static void valueBounds() {
    long[] want = {0, 0, 42, 0, 0, 41, 0};
    for (int s = 0; s <= 6; s++) {
      ModuleEngine e = in(s);
      Kit.due("value(0) in state " + s, e.value(0), want[s]);
      for (int k : new int[] {1, -1, 15, 16, 17, Integer.MIN_VALUE, Integer.MAX_VALUE}) Kit.due("value(" + k + ") in state " + s, e.value(k), 0);
    }
  }

  /** What it was (at first 0). -1, doing nothing, when n is below 0. */
  private static void tierBounds() {
    refusedInAll("tier(-1)", e -> e.tier(-1), -1);
    refusedInAll("tier of the least number", e -> e.tier(Integer.MIN_VALUE), -1);
    ModuleEngine e = in(2);
    Kit.due("at first", e.tier(Integer.MAX_VALUE), 0);
    Kit.due("the greatest", e.tier(0), Integer.MAX_VALUE);
    Kit.due("never", e.tier(1), 0);
    Kit.due("once", e.tier(1), 1);
  }

  /** -1 when there is none such (also of another kind). */
  private static void exportBounds() {
    int[] kinds = {0, 0, 0, 0, 0, 0, 1, 1, 2, 3, 3, 0};
    int[] numbers = {1, 2, 3, 4, 5, 6, 0, 1, 0, 0, 1, 0};
    int[] parameters = {1, 0, 0, 0, 2, 1, -1, -1, -1, -1, -1, 1};
    int[] sizes = {-1, -1, -1, -1, -1, -1, 2, 3, 1, -1, -1, -1};
    int[] types = {-1, -1, -1, -1, -1, -1, -1, -1, -1, 127, 126, -1};
    for (int s = 0; s <= 6; s++) {
      ModuleEngine e = in(s);
      for (int k = 0; k < EXPORTS; k++) {
        int[] want = {kinds[k], numbers[k], parameters[k], parameters[k], sizes[k], types[k]};
        for (int w = 0; w < 6; w++) Kit.due("export(0, " + k + ", " + w + ")", e.export(0, k, w), want[w]);
        for (int w : new int[] {-1, 6, Integer.MIN_VALUE, Integer.MAX_VALUE}) Kit.due("export(0, " + k + ", " + w + ")", e.export(0, k, w), -1);
      }
      int[][] wrong = {{0, EXPORTS}, {0, -1}, {1, 0}, {-1, 0}, {0, Integer.MAX_VALUE}, {Integer.MAX_VALUE, 0}, {Integer.MIN_VALUE, 0}};
      for (int[] w : wrong) for (int what = 0; what < 6; what++) Kit.due("export of none", e.export(w[0], w[1], what), -1);
    }
  }

  /** The byte at an address (32 bits without sign); -1 when there is none. */
  private static void memoryBounds() {
    for (int s = 0; s <= 6; s++) {
      ModuleEngine e = in(s);
      Kit.due("the first byte", e.memory(0, MEMORY, 0), 0);
      Kit.due("the last byte", e.memory(0, MEMORY, 65535), 0);
      for (int a : new int[] {65536, -1, Integer.MIN_VALUE, Integer.MAX_VALUE, -65536}) Kit.due("memory at " + a, e.memory(0, MEMORY, a), -1);
      for (int k = 0; k < EXPORTS; k++) if (k != MEMORY) Kit.due("memory of export " + k, e.memory(0, k, 0), -1);
      int[][] wrong = {{0, EXPORTS}, {0, -1}, {1, MEMORY}, {-1, MEMORY}, {Integer.MIN_VALUE, MEMORY}, {0, Integer.MAX_VALUE}};
      for (int[] w : wrong) Kit.due("memory of none", e.memory(w[0], w[1], 0), -1);
    }
  }

  /** Sets it to the lowest 8 bits of v: true; false when there is none, or something runs. */
  private static void pokeBounds() {
    for (int a : new int[] {0, 65535}) {
      for (int s : new int[] {0, 2, 3, 4, 6}) {
        ModuleEngine e = in(s);
        Kit.due("poke at " + a + " in state " + s, e.poke(0, MEMORY, a, -1), true);
        Kit.due("its byte", e.memory(0, MEMORY, a), 255);
        Kit.due("the byte ahead of it", e.memory(0, MEMORY, a - 1), a == 0 ? -1 : 0);
        Kit.due("the byte behind it", e.memory(0, MEMORY, a + 1), a == 0 ? 0 : -1);
        e.poke(0, MEMORY, a, 256 + 128);
        Kit.due("the lowest 8 bits", e.memory(0, MEMORY, a), 128);
        e.poke(0, MEMORY, a, Integer.MIN_VALUE);
        Kit.due("none of them", e.memory(0, MEMORY, a), 0);
      }
      for (int s : new int[] {1, 5}) Kit.refused("poke in state " + s, () -> in(s), e -> Kit.bit(e.poke(0, MEMORY, a, 1)), 0);
    }
    for (int a : new int[] {65536, -1, Integer.MIN_VALUE, Integer.MAX_VALUE}) refusedInAll("poke at " + a, e -> Kit.bit(e.poke(0, MEMORY, a, 1)), 0);
    int[][] wrong = {{0, EXPORTS}, {0, -1}, {1, MEMORY}, {-1, MEMORY}, {0, TABLE}, {0, GLOBAL}, {0, NEXT}};
    for (int[] w : wrong) refusedInAll("poke of " + w[0] + ", " + w[1], e -> Kit.bit(e.poke(w[0], w[1], 0, 1)), 0);
  }

  /** -2 when there is none (an index below 0, too). */
  private static void tableBounds() {
    for (int s = 0; s <= 6; s++) {
      ModuleEngine e = in(s);
      Kit.due("the first entry", e.table(0, TABLE, 0), -1);
      Kit.due("the last entry", e.table(0, TABLE, 1), -1);
      Kit.due("behind it", e.table(0, TABLE, 2), -2);
      Kit.due("the last entry of the other", e.table(0, OTHER_TABLE, 2), -1);
      Kit.due("behind it", e.table(0, OTHER_TABLE, 3), -2);
      for (int a : new int[] {-1, 1023, 1024, Integer.MIN_VALUE, Integer.MAX_VALUE}) Kit.due("entry " + a, e.table(0, TABLE, a), -2);
      for (int k = 0; k < EXPORTS; k++) if (k != TABLE && k != OTHER_TABLE) Kit.due("table of export " + k, e.table(0, k, 0), -2);
      int[][] wrong = {{0, EXPORTS}, {0, -1}, {1, TABLE}, {-1, TABLE}, {Integer.MIN_VALUE, TABLE}, {0, Integer.MAX_VALUE}};
      for (int[] w : wrong) Kit.due("table of none", e.table(w[0], w[1], 0), -2);
    }
  }

  /** 0 when there is none. */
  private static void globalBounds() {
    for (int s = 0; s <= 6; s++) {
      ModuleEngine e = in(s);
      Kit.due("a global", e.global(0, GLOBAL), 7);
      Kit.due("a global of 64 bits", e.global(0, FIXED), -1);
      for (int k = 0; k < GLOBAL; k++) Kit.due("global of export " + k, e.global(0, k), 0);
      int[][] wrong = {{0, EXPORTS}, {0, -1}, {1, GLOBAL}, {-1, GLOBAL}, {Integer.MIN_VALUE, GLOBAL}, {0, Integer.MAX_VALUE}};
      for (int[] w : wrong) Kit.due("global of none", e.global(w[0], w[1]), 0);
    }
  }
}
