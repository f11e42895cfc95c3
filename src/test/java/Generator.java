import java.io.ByteArrayOutputStream;
import java.util.ArrayList;
import java.util.List;
import java.util.Random;

/** Modules by chance: most are right in all they say, with all instructions; some have a fault somewhere. */
final class Generator {
  private static final int[] KINDS = {127, 126, 125, 124, 112, 111};
  private static final long[] WHOLE = {0, 1, 2, 3, 5, 7, 8, 31, 32, 33, 63, 64, 100, 255, 256, 65535, 65536, 0x7fffffffL,
    0x80000000L, 0xffffffffL, -1, -2, -7, Long.MAX_VALUE, Long.MIN_VALUE, 0x8000000000L, 0x7f800000L, 0x5f000000L};
  private static final long[] SINGLE = {0, 0x80000000L, 0x3f800000L, 0xbf800000L, 0x7f800000L, 0xff800000L, 0x7fc00000L,
    0xffc00000L, 0x7f800001L, 1, 0x80000001L, 0x007fffffL, 0x00800000L, 0x7f7fffffL, 0x3f000000L, 0x3fc00000L, 0x40200000L,
    0x4f000000L, 0xcf000000L, 0x4effffffL, 0x4f800000L, 0x5f000000L, 0xdf000000L, 0x5f800000L, 0x4b000001L, 0xbf7fffffL};
  private static final long[] WIDE = {0, Long.MIN_VALUE, 0x3ff0000000000000L, 0xbff0000000000000L, 0x7ff0000000000000L,
    0xfff0000000000000L, 0x7ff8000000000000L, 0xfff8000000000001L, 0x7ff0000000000001L, 1, 0x8000000000000001L,
    0x000fffffffffffffL, 0x0010000000000000L, 0x7fefffffffffffffL, 0x3fe0000000000000L, 0x3ff8000000000000L, 0x4004000000000000L,
    0x41e0000000000000L, 0xc1e0000000000000L, 0xc1e0000000200000L, 0x41efffffffe00000L, 0x41f0000000000000L, 0x43e0000000000000L,
    0xc3e0000000000000L, 0x43f0000000000000L, 0x47efffffe0000000L, 0x47effffff0000000L, 0x36a0000000000000L, 0x3690000000000000L};

  record Type(List<Integer> params, List<Integer> results) { }

  private final Random random;
  final List<Type> types = new ArrayList<>();
  final List<Integer> importKinds = new ArrayList<>();
  final List<Type> functions = new ArrayList<>();
  final List<Integer> functionTypes = new ArrayList<>();
  int importedFunctions;
  final List<Integer> tables = new ArrayList<>();
  int importedTables;
  int memories;
  int importedMemories;
  final List<int[]> globals = new ArrayList<>();
  int importedGlobals;
  final List<Integer> elementKinds = new ArrayList<>();
  int dataCount;
  boolean wild;
  private boolean dataCounted;
  final List<int[]> exports = new ArrayList<>();

  Generator(long seed) { random = new Random(seed); }

  private int pick(int n) { return random.nextInt(n); }
  private boolean chance(int percent) { return random.nextInt(100) < percent; }
  private <T> T any(List<T> list) { return list.get(pick(list.size())); }

  static final class Out extends ByteArrayOutputStream {
    Out u(long v) {
      long x = v;
      do {
        long b = x & 127;
        x >>>= 7;
        write((int) (x != 0 ? b | 128 : b));
      } while (x != 0);
      return this;
    }

    Out s(long v) {
      long x = v;
      while (true) {
        long b = x & 127;
        x >>= 7;
        if (x == 0 && (b & 64) == 0 || x == -1 && (b & 64) != 0) {
          write((int) b);
          return this;
        }
        write((int) b | 128);
      }
    }

    Out b(int... bytes) {
      for (int x : bytes) write(x);
      return this;
    }

    Out raw(Out other) {
      byte[] x = other.toByteArray();
      write(x, 0, x.length);
      return this;
    }

    Out little(long v, int n) {
      for (int i = 0; i < n; i++) write((int) (v >> 8 * i));
      return this;
    }

    Out name(String s) {
      byte[] x = s.getBytes(java.nio.charset.StandardCharsets.UTF_8);
      u(x.length);
      write(x, 0, x.length);
      return this;
    }
  }

  private int kind(boolean references) { return KINDS[pick(references ? 6 : 4)]; }

  private List<Integer> kindRow(int most) {
    List<Integer> out = new ArrayList<>();
    int n = pick(most + 1);
    for (int i = 0; i < n; i++) out.add(kind(chance(25)));
    return out;
  }

  private static void section(Out out, int id, Out content) {
    out.b(id).u(content.size()).raw(content);
  }

  private void row(Out out, List<Integer> kinds) {
    out.u(kinds.size());
    for (int k : kinds) out.b(k);
  }

  private void limits(Out out, int least, int room) {
    if (chance(50)) out.b(0).u(least);
    else out.b(1).u(least).u(least + pick(room));
  }

  byte[] module() {
    Out out = new Out();
    out.b(0, 97, 115, 109, 1, 0, 0, 0);
    types.add(new Type(List.of(), List.of()));
    types.add(new Type(List.of(127), List.of(127)));
    int n = 1 + pick(4);
    for (int i = 0; i < n; i++) types.add(new Type(kindRow(4), kindRow(3)));
    Out t = new Out();
    t.u(types.size());
    for (Type x : types) {
      t.b(96);
      row(t, x.params);
      row(t, x.results);
    }
    if (chance(10)) section(out, 0, new Out().name("é€😀").b(1, 2, 3));
    section(out, 1, t);
    writeImports(out);
    int own = 1 + pick(5);
    Out f = new Out().u(own);
    for (int i = 0; i < own; i++) {
      int k = pick(types.size());
      functions.add(types.get(k));
      functionTypes.add(k);
      f.u(k);
    }
    section(out, 3, f);
    writeTables(out);
    if (memories == 0 && chance(75)) {
      memories = 1;
      Out m = new Out().u(1);
      limits(m, pick(3), 4);
      section(out, 5, m);
    }
    writeGlobals(out);
    writeExports(out);
    for (int i = 0; i < functions.size(); i++)
      if (functions.get(i).params.isEmpty() && functions.get(i).results.isEmpty() && chance(15)) {
        section(out, 8, new Out().u(i));
        break;
      }
    writeElements(out);
    dataCount = memories > 0 ? pick(4) : pick(2);
    dataCounted = chance(80);
    if (dataCounted) section(out, 12, new Out().u(dataCount));
    Out c = new Out().u(own);
    for (int i = 0; i < own; i++) {
      Out body = new BodyMaker(functions.get(importedFunctions + i)).make();
      c.u(body.size()).raw(body);
    }
    section(out, 10, c);
    writeData(out);
    return out.toByteArray();
  }

  /** Sections of small rows with small numbers, which go together by chance only. */
  byte[] loose() {
    Out out = new Out();
    out.b(0, 97, 115, 109, 1, 0, 0, 0);
    int[] order = {1, 2, 3, 4, 5, 6, 7, 8, 9, 12, 10, 11};
    int bodies = 0;
    int data = pick(3);
    for (int id : order) {
      if (chance(4)) section(out, 0, new Out().name("x"));
      if (chance(id == 1 ? 5 : 40)) continue;
      int rows = id == 10 ? chance(95) ? bodies : pick(3) : id == 11 ? data : 1 + pick(2);
      if (chance(1)) rows = 60 + pick(10);
      if (id == 3) bodies = rows;
      Out x = new Out();
      if (id != 8 && id != 12) x.u(rows);
      for (int i = 0; i < rows; i++) looseRow(x, id, i);
      if (id == 8) x = new Out().u(pick(3));
      if (id == 12) x = new Out().u(chance(90) ? data : pick(3));
      section(out, id, x);
    }
    return out.toByteArray();
  }

  private void looseRow(Out x, int id, int i) {
    switch (id) {
      case 1 -> {
        x.b(96);
        row(x, kindRow(chance(2) ? 20 : chance(50) ? 0 : 1));
        row(x, kindRow(chance(70) ? 0 : 1));
      }
      case 2 -> {
        int kind = pick(4);
        x.name("").name("").b(kind);
        if (kind == 0) x.u(chance(85) ? 0 : 1);
        if (kind == 1) x.b(chance(70) ? 112 : 111);
        if (kind == 1 || kind == 2) looseLimits(x);
        if (kind == 3) x.b(chance(60) ? 127 : kind(true), chance(80) ? 0 : 1);
      }
      case 3 -> x.u(chance(85) ? 0 : 1);
      case 4 -> {
        x.b(chance(70) ? 112 : 111);
        looseLimits(x);
      }
      case 5 -> looseLimits(x);
      case 6 -> {
        int kind = kind(true);
        x.b(kind, pick(2));
        looseConstant(x, kind);
      }
      case 7 -> x.name(chance(90) ? "n" + i : "n").b(pick(4)).u(chance(80) ? 0 : pick(3));
      case 9 -> looseElement(x);
      case 10 -> {
        Out body = new Out();
        if (chance(95)) body.b(0);
        else body.u(2).u(chance(50) ? 0xffffffffL : 999).b(127).u(pick(3)).b(126);
        if (chance(30)) body.b(210).u(pick(3)).b(26);
        if (chance(20)) body.b(35).u(pick(2)).b(26);
        if (chance(10)) body.b(65, 0, 65, 0, 65, 0, 252).u(8 + pick(10)).u(pick(2)).b(pick(2));
        if (chance(10)) body.b(16).u(pick(2));
        body.b(11);
        x.u(body.size()).raw(body);
      }
      default -> {
        int m = chance(98) ? pick(3) : 3;
        x.u(m);
        if (m == 2) x.u(chance(90) ? 0 : 1);
        if (m != 1) looseConstant(x, 127);
        x.u(2).b(7, 8);
      }
    }
  }

  private void looseLimits(Out x) {
    long[] some = {0, 0, 1, 1, 2, 3, 65536, 65537, 0xffffffffL};
    int last = chance(90) ? 6 : 9;
    if (chance(60)) x.b(0).u(some[pick(last)]);
    else x.b(1).u(some[pick(last)]).u(some[pick(last)]);
  }

  private void looseElement(Out x) {
    int m = chance(98) ? pick(8) : 8;
    x.u(m);
    if ((m & 1) == 0 && (m & 2) != 0) x.u(chance(80) ? 0 : 1);
    if ((m & 1) == 0) looseConstant(x, 127);
    int kind = chance(80) ? 112 : 111;
    if (m != 0 && m != 4) x.b((m & 4) == 0 ? chance(98) ? 0 : 1 : kind);
    int items = pick(3);
    x.u(items);
    for (int i = 0; i < items; i++) {
      if ((m & 4) == 0) x.u(chance(85) ? 0 : pick(3));
      else looseConstant(x, m == 4 ? 112 : kind);
    }
  }

  private void looseConstant(Out x, int kind) {
    int how = pick(20);
    if (how == 0) x.b(1);
    if (how == 1) x.b(35).u(pick(2));
    else if (how == 2) x.b(210).u(pick(3));
    else if (how == 3) writeConstant(x, kind(true), false);
    else if (kind == 127) x.b(65).s(pick(3));
    else writeConstant(x, kind, false);
    if (how == 4) x.b(210).u(pick(3));
    if (how == 5) x.b(2, 64, 11);
    x.b(11);
  }

  private void writeImports(Out out) {
    int n = chance(60) ? pick(4) : 0;
    Out x = new Out().u(n);
    for (int i = 0; i < n; i++) {
      int kind = chance(60) ? 0 : pick(4);
      if (kind == 2 && memories == 1) kind = 0;
      importKinds.add(kind);
      x.name("m").name("n" + i).b(kind);
      if (kind == 0) {
        int t = pick(types.size());
        x.u(t);
        functions.add(types.get(t));
        functionTypes.add(t);
        importedFunctions++;
      } else if (kind == 1) {
        int k = chance(70) ? 112 : 111;
        x.b(k);
        limits(x, pick(3), 20);
        tables.add(k);
        importedTables++;
      } else if (kind == 2) {
        limits(x, pick(2), 5);
        memories = 1;
        importedMemories = 1;
      } else {
        int[] g = {kind(chance(30)), pick(2)};
        x.b(g[0], g[1]);
        globals.add(g);
        importedGlobals++;
      }
    }
    if (n > 0 || chance(10)) section(out, 2, x);
  }

  private void writeTables(Out out) {
    int n = pick(3);
    Out x = new Out().u(n);
    for (int i = 0; i < n; i++) {
      int k = chance(70) ? 112 : 111;
      x.b(k);
      limits(x, pick(12), 10);
      tables.add(k);
    }
    if (n > 0) section(out, 4, x);
  }

  private void writeGlobals(Out out) {
    int n = pick(5);
    Out x = new Out().u(n);
    for (int i = 0; i < n; i++) {
      int[] g = {kind(chance(30)), pick(2)};
      x.b(g[0], g[1]);
      constant(x, g[0]);
      globals.add(g);
    }
    if (n > 0) section(out, 6, x);
  }

  private void constant(Out x, int kind) {
    if (chance(30))
      for (int g = 0; g < importedGlobals; g++)
        if (globals.get(g)[0] == kind && globals.get(g)[1] == 0) {
          x.b(35).u(g).b(11);
          return;
        }
    if (kind == 112 && chance(70) && functionTypes.size() > 0) x.b(210).u(pick(functionTypes.size()));
    else writeConstant(x, kind, false);
    x.b(11);
  }

  private void place(Out x, int most) {
    if (chance(20))
      for (int g = 0; g < importedGlobals; g++)
        if (globals.get(g)[0] == 127 && globals.get(g)[1] == 0) {
          x.b(35).u(g).b(11);
          return;
        }
    x.b(65).s(pick(most)).b(11);
  }

  void writeConstant(Out x, int kind, boolean address) {
    if (kind == 127) x.b(65).s(address ? (chance(80) ? pick(200) : 65536 - pick(20)) : chance(70) ? (int) WHOLE[pick(WHOLE.length)] : random.nextInt());
    else if (kind == 126) x.b(66).s(chance(70) ? WHOLE[pick(WHOLE.length)] : random.nextLong());
    else if (kind == 125) x.b(67).little(chance(70) ? SINGLE[pick(SINGLE.length)] : random.nextInt(), 4);
    else if (kind == 124) x.b(68).little(chance(70) ? WIDE[pick(WIDE.length)] : random.nextLong(), 8);
    else x.b(208).b(kind);
  }

  private void writeExports(Out out) {
    int[] counts = {functions.size(), tables.size(), memories, globals.size()};
    Out x = new Out();
    for (int kind = 0; kind < 4; kind++)
      for (int i = 0; i < counts[kind]; i++)
        if (chance(90)) {
          x.name("e" + kind + "_" + i).b(kind).u(i);
          exports.add(new int[] {kind, i});
        }
    section(out, 7, new Out().u(exports.size()).raw(x));
  }

  private void writeElements(Out out) {
    int n = pick(4);
    Out x = new Out();
    int written = 0;
    for (int i = 0; i < n; i++) {
      int m = pick(8);
      int table = (m & 2) != 0 && tables.size() > 0 ? pick(tables.size()) : 0;
      boolean active = (m & 1) == 0;
      if (active && tables.isEmpty()) continue;
      int kind = active ? tables.get(table) : chance(70) ? 112 : 111;
      if (m == 0 || m == 4 || (m & 4) == 0) {
        if (active && kind != 112) continue;
        kind = 112;
      }
      written++;
      elementKinds.add(kind);
      x.u(m);
      if (active) {
        if ((m & 2) != 0) x.u(table);
        place(x, chance(80) ? 4 : 14);
      }
      if (m != 0 && m != 4) {
        if ((m & 4) == 0) x.b(0);
        else x.b(kind);
      }
      int items = pick(5);
      x.u(items);
      for (int k = 0; k < items; k++) {
        if ((m & 4) == 0) x.u(pick(functions.size()));
        else constant(x, kind);
      }
    }
    if (written > 0) section(out, 9, new Out().u(written).raw(x));
  }

  private void writeData(Out out) {
    if (dataCount == 0 && chance(90)) return;
    Out x = new Out().u(dataCount);
    for (int i = 0; i < dataCount; i++) {
      int m = memories > 0 ? pick(3) : 1;
      x.u(m);
      if (m == 2) x.u(0);
      if (m != 1) place(x, chance(70) ? 50 : 70000);
      int n = pick(12);
      x.u(n);
      for (int k = 0; k < n; k++) x.b(pick(256));
    }
    section(out, 11, x);
  }

  private static final class Label {
    int op;
    Type type;
    int height;
    boolean dead;
    boolean hadElse;
    List<Integer> wants() { return op == 3 ? type.params : type.results; }
  }

  /** A body, made with the types of its operands in view. */
  private final class BodyMaker {
    final Type type;
    final List<Integer> locals = new ArrayList<>();
    final List<Integer> row = new ArrayList<>();
    final List<Label> labels = new ArrayList<>();
    final Out out = new Out();

    BodyMaker(Type type) { this.type = type; }

    Out make() {
      locals.addAll(type.params);
      int runs = pick(4);
      out.u(runs);
      for (int i = 0; i < runs; i++) {
        int n = pick(4);
        int k = kind(chance(30));
        out.u(n).b(k);
        for (int j = 0; j < n; j++) locals.add(k);
      }
      open(2, type);
      int size = 1 + pick(chance(20) ? 120 : 30);
      for (int i = 0; i < size; i++) instruction();
      while (!labels.isEmpty()) end();
      return out;
    }

    Label inner() { return labels.get(labels.size() - 1); }

    void open(int op, Type t) {
      Label l = new Label();
      l.op = op;
      l.type = t;
      l.height = row.size();
      labels.add(l);
    }

    int top(int below) {
      int at = row.size() - 1 - below;
      return at < inner().height ? -1 : row.get(at);
    }

    void value(int kind, boolean address) {
      if (chance(50)) {
        List<Integer> fit = new ArrayList<>();
        for (int i = 0; i < locals.size(); i++) if (locals.get(i) == kind) fit.add(i);
        if (!fit.isEmpty() && !address) {
          out.b(32).u(any(fit));
          row.add(kind);
          return;
        }
      }
      if (kind == 112 && chance(60)) {
        List<Integer> fit = new ArrayList<>();
        for (int[] e : exports) if (e[0] == 0) fit.add(e[1]);
        if (!fit.isEmpty()) {
          out.b(210).u(any(fit));
          row.add(112);
          return;
        }
      }
      writeConstant(out, kind, address);
      row.add(kind);
    }

    /** Sees to it that these lie on top, and takes them. */
    void want(List<Integer> kinds, boolean address) {
      boolean there = !chance(20);
      for (int i = 0; i < kinds.size() && there; i++) {
        int k = top(kinds.size() - 1 - i);
        if (k == -1 ? !inner().dead : k != 0 && k != kinds.get(i)) there = false;
      }
      if (wild && chance(3)) there = true;
      if (there && inner().dead) {
        for (int i = kinds.size() - 1; i >= 0; i--) {
          int k = top(0);
          if (k != -1) row.remove(row.size() - 1);
        }
        return;
      }
      if (there) {
        for (int i = 0; i < kinds.size() && row.size() > inner().height; i++) row.remove(row.size() - 1);
        return;
      }
      for (int i = 0; i < kinds.size(); i++) value(kinds.get(i), address && i == 0);
      for (int i = 0; i < kinds.size(); i++) row.remove(row.size() - 1);
    }

    void put(List<Integer> kinds) { row.addAll(kinds); }

    void die() {
      while (row.size() > inner().height) row.remove(row.size() - 1);
      inner().dead = true;
    }

    void finish(List<Integer> wanted) {
      // The operands above the height become just those that are wanted.
      if (inner().dead) {
        boolean ok = row.size() - inner().height <= wanted.size();
        for (int i = 0; ok && i < row.size() - inner().height; i++) {
          int k = row.get(row.size() - 1 - i);
          if (k != 0 && k != wanted.get(wanted.size() - 1 - i)) ok = false;
        }
        if (!ok) {
          while (row.size() > inner().height) {
            out.b(26);
            row.remove(row.size() - 1);
          }
        }
        while (row.size() > inner().height) row.remove(row.size() - 1);
        return;
      }
      if (!row.subList(inner().height, row.size()).equals(wanted)) {
        while (row.size() > inner().height) {
          out.b(26);
          row.remove(row.size() - 1);
        }
        for (int k : wanted) value(k, false);
      }
      while (row.size() > inner().height) row.remove(row.size() - 1);
    }

    void end() {
      Label l = inner();
      if (l.op == 4 && !l.hadElse && (!l.type.params.equals(l.type.results) || chance(50))) otherwise();
      finish(l.type.results);
      out.b(11);
      labels.remove(labels.size() - 1);
      if (!labels.isEmpty()) put(l.type.results);
    }

    void otherwise() {
      Label l = inner();
      finish(l.type.results);
      out.b(5);
      l.dead = false;
      l.hadElse = true;
      put(l.type.params);
    }

    void block() {
      int op = 2 + pick(3);
      Type t;
      Out code = new Out();
      int how = pick(3);
      if (how == 0) {
        t = new Type(List.of(), List.of());
        code.b(64);
      } else if (how == 1) {
        int k = kind(chance(30));
        t = new Type(List.of(), List.of(k));
        code.b(k);
      } else {
        int n = pick(types.size());
        t = types.get(n);
        code.s(n);
      }
      List<Integer> wanted = new ArrayList<>(t.params);
      if (op == 4) wanted.add(127);
      want(wanted, false);
      out.b(op).raw(code);
      open(op, t);
      put(t.params);
    }

    void instruction() {
      int what = pick(100);
      if (wild && chance(2)) {
        out.b(pick(256));
        return;
      }
      if (what < 12 && labels.size() < 8) block();
      else if (what < 20 && labels.size() > 1) end();
      else if (what < 22 && inner().op == 4 && !inner().hadElse) otherwise();
      else if (what < 32) branch();
      else if (what < 45) variable();
      else if (what < 52) call();
      else if (what < 62) memory();
      else if (what < 70) table();
      else if (what < 74) choice();
      else operator();
    }

    void operator() {
      int op = chance(10) ? 1000 + pick(8) : 69 + pick(128);
      String s = Reference.Ops.signature(op);
      List<Integer> in = new ArrayList<>();
      for (int i = 0; i < s.length() - 1; i++) in.add(Reference.kindOf(s.charAt(i)));
      want(in, false);
      if (op >= 1000) out.b(252).u(op - 1000);
      else out.b(op);
      row.add(Reference.kindOf(s.charAt(s.length() - 1)));
    }

    void choice() {
      int k = kind(false);
      if (chance(20)) out.b(1);
      else if (chance(30) && top(0) != -1) {
        out.b(26);
        row.remove(row.size() - 1);
      } else if (chance(50)) {
        want(List.of(k, k, 127), false);
        out.b(27);
        row.add(inner().dead ? 0 : k);
      } else {
        int any = kind(true);
        want(List.of(any, any, 127), false);
        out.b(28).u(1).b(any);
        row.add(any);
      }
    }

    void branch() {
      int x = pick(labels.size());
      Label l = labels.get(labels.size() - 1 - x);
      int how = pick(wild ? 6 : 12);
      if (how == 0) {
        out.b(0);
        die();
      } else if (how == 1) {
        want(l.wants(), false);
        out.b(12).u(x);
        die();
      } else if (how == 2) {
        want(type.results, false);
        out.b(15);
        die();
      } else if (how == 3) {
        List<Integer> same = new ArrayList<>();
        for (int i = 0; i < labels.size(); i++) if (labels.get(labels.size() - 1 - i).wants().equals(l.wants())) same.add(i);
        List<Integer> w = new ArrayList<>(l.wants());
        w.add(127);
        want(w, false);
        int n = pick(4);
        out.b(14).u(n);
        for (int i = 0; i < n; i++) out.u(any(same));
        out.u(x);
        die();
      } else {
        List<Integer> w = new ArrayList<>(l.wants());
        w.add(127);
        want(w, false);
        out.b(13).u(x);
        put(l.wants());
      }
    }

    void variable() {
      if (!globals.isEmpty() && chance(35)) {
        int g = pick(globals.size());
        int k = globals.get(g)[0];
        if (globals.get(g)[1] == 1 && chance(50)) {
          want(List.of(k), false);
          out.b(36).u(g);
        } else {
          out.b(35).u(g);
          row.add(k);
        }
        return;
      }
      if (locals.isEmpty()) return;
      int x = pick(locals.size());
      int k = locals.get(x);
      int op = 32 + pick(3);
      if (op != 32) want(List.of(k), false);
      out.b(op).u(x);
      if (op != 33) row.add(k);
    }

    void call() {
      if (chance(60)) {
        int f = pick(functions.size());
        want(functions.get(f).params, false);
        out.b(16).u(f);
        put(functions.get(f).results);
        return;
      }
      List<Integer> fit = new ArrayList<>();
      for (int i = 0; i < tables.size(); i++) if (tables.get(i) == 112) fit.add(i);
      if (fit.isEmpty()) return;
      int t = pick(types.size());
      List<Integer> w = new ArrayList<>(types.get(t).params);
      w.add(127);
      want(types.get(t).params, false);
      out.b(65).s(pick(8));
      out.b(17).u(t).u(any(fit));
      put(types.get(t).results);
    }

    void memory() {
      if (memories == 0) return;
      int how = pick(12);
      if (how == 0) {
        out.b(63, 0);
        row.add(127);
      } else if (how == 1) {
        if (chance(50)) {
          out.b(65).s(pick(3));
          out.b(64, 0);
        } else {
          want(List.of(127), false);
          out.b(64, 0);
        }
        row.add(127);
      } else if (how == 2 && dataCounted && dataCount > 0) {
        if (chance(70)) {
          small(3, 14);
          out.b(252).u(8).u(pick(dataCount)).b(0);
        } else out.b(252).u(9).u(pick(dataCount));
      } else if (how == 3) {
        small(3, chance(80) ? 300 : 70000);
        if (chance(50)) out.b(252, 10, 0, 0);
        else out.b(252, 11, 0);
      } else {
        int op = 40 + pick(23);
        int k = Reference.accessKind(op);
        int align = pick(Integer.numberOfTrailingZeros(Reference.bytesOf(op)) + 1);
        long offset = chance(90) ? pick(10) : chance(50) ? 65530 + pick(10) : 0xffffffffL;
        want(op < 54 ? List.of(127) : List.of(127, k), true);
        out.b(op).u(align).u(offset);
        if (op < 54) row.add(k);
      }
    }

    void small(int n, int most) {
      for (int i = 0; i < n; i++) out.b(65).s(pick(most));
    }

    void table() {
      if (tables.isEmpty()) return;
      int t = pick(tables.size());
      int k = tables.get(t);
      switch (pick(8)) {
        case 0 -> {
          out.b(65).s(pick(9));
          out.b(37).u(t);
          row.add(k);
        }
        case 1 -> {
          out.b(65).s(pick(9));
          row.add(127);
          value(k, false);
          row.remove(row.size() - 1);
          row.remove(row.size() - 1);
          out.b(38).u(t);
        }
        case 2 -> {
          value(k, false);
          row.remove(row.size() - 1);
          out.b(65).s(pick(4));
          out.b(252).u(15).u(t);
          row.add(127);
        }
        case 3 -> {
          out.b(252).u(16).u(t);
          row.add(127);
        }
        case 4 -> {
          out.b(65).s(pick(6));
          row.add(127);
          value(k, false);
          row.remove(row.size() - 1);
          row.remove(row.size() - 1);
          out.b(65).s(pick(6));
          out.b(252).u(17).u(t);
        }
        case 5 -> {
          for (int e = 0; e < elementKinds.size(); e++)
            if (elementKinds.get(e) == k) {
              small(3, 4);
              out.b(252).u(12).u(e).u(t);
              return;
            }
        }
        case 6 -> {
          for (int o = 0; o < tables.size(); o++)
            if (tables.get(o) == k) {
              small(3, 5);
              out.b(252).u(14).u(t).u(o);
              return;
            }
        }
        default -> {
          if (!elementKinds.isEmpty()) out.b(252).u(13).u(pick(elementKinds.size()));
          else {
            want(List.of(k), false);
            out.b(209);
            row.add(127);
          }
        }
      }
    }
  }
}
