import java.math.BigDecimal;
import java.math.BigInteger;
import java.math.RoundingMode;
import java.util.ArrayList;
import java.util.Arrays;
import java.util.HashSet;
import java.util.List;
import java.util.Set;

/**
 * The document once more, written plainly and slowly with all that Java has, to compare ModuleEngine with: trees
 * instead of flattened code, Java's own floating numbers, one machine, faults as exceptions.
 */
final class Reference {
  static final class Fault extends RuntimeException {
    final int code;
    final int place;
    Fault(int code, int place) { super(null, null, false, false); this.code = code; this.place = place; }
  }

  static final class Trap extends RuntimeException {
    final int code;
    Trap(int code) { super(null, null, false, false); this.code = code; }
  }

  static final class Exhausted extends RuntimeException {
    Exhausted() { super(null, null, false, false); }
  }

  record FuncType(List<Integer> params, List<Integer> results) { }
  record Limits(long least, long greatest) { }
  record TableType(int kind, Limits limits) { }
  record GlobalType(int kind, int changes) { }
  record Import(int kind, long type, TableType table, Limits memory, GlobalType global) { }
  record Export(String name, int kind, long index) { }

  static final class Instr {
    int op;
    int place;
    long a;
    long b;
    List<Long> row = new ArrayList<>();
    List<Instr> body;
    List<Instr> otherwise;
    FuncType type;
    int arity;
  }

  static final class Element {
    int mode;
    long table;
    int kind;
    List<Instr> offset;
    List<Long> functions;
    List<List<Instr>> items;
  }

  static final class Data {
    int mode;
    long memory;
    List<Instr> offset;
    byte[] content;
  }

  static final class Body {
    List<Integer> locals = new ArrayList<>();
    long localCount;
    List<Instr> code;
    int most;
    boolean bigTable;
    boolean oddChoice;
  }

  static final class Mod {
    List<FuncType> types = new ArrayList<>();
    List<Import> imports = new ArrayList<>();
    List<Long> functions = new ArrayList<>();
    List<TableType> tables = new ArrayList<>();
    List<Limits> memories = new ArrayList<>();
    List<GlobalType> globals = new ArrayList<>();
    List<List<Instr>> globalInit = new ArrayList<>();
    List<Export> exports = new ArrayList<>();
    long start = -1;
    List<Element> elements = new ArrayList<>();
    List<Data> data = new ArrayList<>();
    List<Body> bodies = new ArrayList<>();
    long dataCount = -1;
    int[] places = new int[13];
    List<Long> allFunctions = new ArrayList<>();
    List<TableType> allTables = new ArrayList<>();
    List<Limits> allMemories = new ArrayList<>();
    List<GlobalType> allGlobals = new ArrayList<>();
    int importedGlobals;
  }

  // ---------------------------------------------------------------- Part I

  private int[] in;
  private int pos;
  private int end;
  private Mod mod;

  private int u8() {
    if (pos >= end) throw new Fault(1, end);
    return in[pos++];
  }

  private long leb(int bits, boolean signed) {
    BigInteger v = BigInteger.ZERO;
    int n = 0;
    int most = (bits + 6) / 7;
    while (true) {
      int p = pos;
      int b = u8();
      n++;
      if (n == most) {
        int left = bits - 7 * (most - 1);
        boolean ok = b < 128;
        int high = b >> left;
        if (!signed) ok &= high == 0;
        else {
          int sign = b >> left - 1 & 1;
          ok &= high == (sign == 1 ? (1 << 7 - left) - 1 : 0);
        }
        if (!ok) throw new Fault(4, p);
      }
      v = v.or(BigInteger.valueOf(b & 127).shiftLeft(7 * (n - 1)));
      if (b < 128) {
        if (signed && (b & 64) != 0) v = v.subtract(BigInteger.ONE.shiftLeft(7 * n));
        return v.longValue();
      }
    }
  }

  private long u32() { return leb(32, false); }

  private static boolean ref(int k) { return k == 111 || k == 112; }
  private static boolean num(int k) { return k >= 124 && k <= 127; }

  private int refType() {
    int p = pos;
    int k = u8();
    if (!ref(k)) throw new Fault(8, p);
    return k;
  }

  private int valType() {
    int p = pos;
    int k = u8();
    if (!ref(k) && !num(k)) throw new Fault(8, p);
    return k;
  }

  private int oneOf(int most) {
    int p = pos;
    int k = u8();
    if (k > most) throw new Fault(7, p);
    return k;
  }

  private String name() {
    long n = u32();
    int from = pos;
    for (long i = 0; i < n; i++) u8();
    int to = pos;
    StringBuilder s = new StringBuilder();
    int p = from;
    while (p < to) {
      int b = in[p];
      int more;
      int least;
      int c;
      if (b < 128) { more = 0; least = 0; c = b; }
      else if (b >= 192 && b < 224) { more = 1; least = 128; c = b - 192; }
      else if (b >= 224 && b < 240) { more = 2; least = 2048; c = b - 224; }
      else if (b >= 240 && b < 248) { more = 3; least = 65536; c = b - 240; }
      else throw new Fault(9, p);
      for (int i = 1; i <= more; i++) {
        if (p + i >= to || in[p + i] < 128 || in[p + i] >= 192) throw new Fault(9, p);
        c = c * 64 + in[p + i] - 128;
      }
      if (c < least || c > 1114111 || c >= 55296 && c <= 57343) throw new Fault(9, p);
      s.appendCodePoint(c);
      p += 1 + more;
    }
    return s.toString();
  }

  private FuncType funcType() {
    int p = pos;
    if (u8() != 96) throw new Fault(8, p);
    List<Integer> a = kinds();
    List<Integer> b = kinds();
    return new FuncType(a, b);
  }

  private List<Integer> kinds() {
    List<Integer> out = new ArrayList<>();
    long n = u32();
    for (long i = 0; i < n; i++) out.add(valType());
    return out;
  }

  private Limits limits() {
    int f = oneOf(1);
    long a = u32();
    return new Limits(a, f == 1 ? u32() : -1);
  }

  private TableType tableType() {
    int k = refType();
    return new TableType(k, limits());
  }

  private GlobalType globalType() {
    int k = valType();
    return new GlobalType(k, oneOf(1));
  }

  /** Reads up to an 11, or a 5 when one may be there; both end the list, as its last instruction. */
  private List<Instr> instrs(boolean mayElse, Body body) {
    List<Instr> out = new ArrayList<>();
    while (true) {
      Instr i = new Instr();
      i.place = pos;
      i.op = u8();
      out.add(i);
      int op = i.op;
      if (op == 11) return out;
      if (op == 5) {
        if (!mayElse) throw new Fault(10, i.place);
        return out;
      }
      if (op == 2 || op == 3 || op == 4) {
        int p = pos;
        if (pos >= end) throw new Fault(1, end);
        int b = in[pos];
        if (b == 64 || ref(b) || num(b)) { pos++; i.a = -b; }
        else {
          i.a = leb(33, true);
          if (i.a < 0) throw new Fault(8, p);
        }
        i.body = instrs(op == 4, body);
        if (i.body.get(i.body.size() - 1).op == 5) i.otherwise = instrs(false, body);
      } else immediates(i, body);
    }
  }

  private void immediates(Instr i, Body body) {
    int op = i.op;
    if (op == 12 || op == 13 || op == 16 || op >= 32 && op <= 38 || op == 210) i.a = u32();
    else if (op == 14) {
      long n = u32();
      for (long k = 0; k < n; k++) i.row.add(u32());
      i.a = u32();
      if (body != null && n > 200) body.bigTable = true;
    } else if (op == 17 || op >= 40 && op <= 62) { i.a = u32(); i.b = u32(); }
    else if (op == 28) {
      for (int k : kinds()) i.row.add((long) k);
      if (body != null && i.row.size() != 1) body.oddChoice = true;
    } else if (op == 63 || op == 64) oneOf(0);
    else if (op == 65) i.a = leb(32, true);
    else if (op == 66) i.a = leb(64, true);
    else if (op == 67) for (int k = 0; k < 4; k++) i.a |= (long) u8() << 8 * k;
    else if (op == 68) for (int k = 0; k < 8; k++) i.a |= (long) u8() << 8 * k;
    else if (op == 208) i.a = refType();
    else if (op == 252) {
      long k = u32();
      if (k > 17) throw new Fault(10, i.place);
      i.op = 1000 + (int) k;
      if ((k == 8 || k == 9) && mod.dataCount < 0) throw new Fault(11, i.place);
      if (k == 8) { i.a = u32(); oneOf(0); }
      else if (k == 9 || k == 13 || k == 15 || k == 16 || k == 17) i.a = u32();
      else if (k == 10) { oneOf(0); oneOf(0); }
      else if (k == 11) oneOf(0);
      else if (k == 12 || k == 14) { i.a = u32(); i.b = u32(); }
    } else if (!(op == 0 || op == 1 || op == 15 || op == 26 || op == 27 || op >= 69 && op <= 196 || op == 209))
      throw new Fault(10, i.place);
  }

  private List<Instr> expression(Body body) { return instrs(false, body); }

  private void read() {
    int[] head = {0, 97, 115, 109, 1, 0, 0, 0};
    for (int h : head) {
      int p = pos;
      if (u8() != h) throw new Fault(5, p);
    }
    Arrays.fill(mod.places, -1);
    List<Integer> order = List.of(1, 2, 3, 4, 5, 6, 7, 8, 9, 12, 10, 11);
    int last = -1;
    int whole = end;
    while (pos < whole) {
      int place = pos;
      int id = u8();
      if (id != 0) {
        int o = order.indexOf(id);
        if (o < 0 || o <= last) throw new Fault(6, place);
        last = o;
      }
      int at = pos;
      long size = u32();
      if (size > whole - pos) throw new Fault(2, at);
      end = pos + (int) size;
      mod.places[id] = place;
      section(id);
      if (pos < end) throw new Fault(3, pos);
      end = whole;
    }
    if (mod.bodies.size() != mod.functions.size()) throw new Fault(13, whole);
    if (mod.dataCount >= 0 && mod.dataCount != mod.data.size()) throw new Fault(14, whole);
  }

  private void section(int id) {
    if (id == 0) { name(); pos = end; return; }
    if (id == 8) { mod.start = u32(); return; }
    if (id == 12) { mod.dataCount = u32(); return; }
    long n = u32();
    for (long k = 0; k < n; k++) {
      switch (id) {
        case 1 -> mod.types.add(funcType());
        case 2 -> imports();
        case 3 -> mod.functions.add(u32());
        case 4 -> mod.tables.add(tableType());
        case 5 -> mod.memories.add(limits());
        case 6 -> { mod.globals.add(globalType()); mod.globalInit.add(expression(null)); }
        case 7 -> { String s = name(); int kind = oneOf(3); mod.exports.add(new Export(s, kind, u32())); }
        case 9 -> element();
        case 10 -> body();
        default -> data();
      }
    }
  }

  private void imports() {
    name();
    name();
    int k = oneOf(3);
    mod.imports.add(switch (k) {
      case 0 -> new Import(0, u32(), null, null, null);
      case 1 -> new Import(1, 0, tableType(), null, null);
      case 2 -> new Import(2, 0, null, limits(), null);
      default -> new Import(3, 0, null, null, globalType());
    });
  }

  private void element() {
    Element e = new Element();
    int p = pos;
    long m = u32();
    if (m > 7) throw new Fault(7, p);
    if ((m & 1) == 0) {
      e.mode = 0;
      if ((m & 2) != 0) e.table = u32();
      e.offset = expression(null);
    } else e.mode = (m & 2) != 0 ? 2 : 1;
    e.kind = 112;
    if (m != 0 && m != 4) {
      if ((m & 4) == 0) oneOf(0);
      else e.kind = refType();
    }
    long n = u32();
    if ((m & 4) == 0) {
      e.functions = new ArrayList<>();
      for (long k = 0; k < n; k++) e.functions.add(u32());
    } else {
      e.items = new ArrayList<>();
      for (long k = 0; k < n; k++) e.items.add(expression(null));
    }
    mod.elements.add(e);
  }

  private void body() {
    int at = pos;
    long size = u32();
    if (size > end - pos) throw new Fault(2, at);
    int outer = end;
    end = pos + (int) size;
    Body b = new Body();
    int count = pos;
    long runs = u32();
    for (long k = 0; k < runs; k++) {
      long n = u32();
      int kind = valType();
      b.localCount += n;
      for (long j = 0; j < n && b.locals.size() <= 1000; j++) b.locals.add(kind);
    }
    if (b.localCount > 4294967295L) throw new Fault(12, count);
    b.code = expression(b);
    if (pos < end) throw new Fault(3, pos);
    end = outer;
    mod.bodies.add(b);
  }

  private void data() {
    Data d = new Data();
    int p = pos;
    long m = u32();
    if (m > 2) throw new Fault(7, p);
    d.mode = m == 1 ? 1 : 0;
    if (m == 2) d.memory = u32();
    if (m != 1) d.offset = expression(null);
    long n = u32();
    List<Integer> content = new ArrayList<>();
    for (long k = 0; k < n; k++) content.add(u8());
    d.content = new byte[content.size()];
    for (int k = 0; k < d.content.length; k++) d.content[k] = (byte) (int) content.get(k);
    mod.data.add(d);
  }

  // ---------------------------------------------------------------- Part II

  private void check() {
    limitsOfEngine();
    for (Import i : mod.imports) if (i.kind == 0 && i.type >= mod.types.size()) throw new Fault(20, mod.places[2]);
    for (long t : mod.functions) if (t >= mod.types.size()) throw new Fault(20, mod.places[3]);
    for (Import i : mod.imports) {
      if (i.kind == 1) range(i.table.limits, 4294967295L, 2);
      if (i.kind == 2) range(i.memory, 65536, 2);
    }
    for (TableType t : mod.tables) range(t.limits, 4294967295L, 4);
    for (Limits m : mod.memories) range(m, 65536, 5);
    for (Import i : mod.imports) {
      if (i.kind == 0) mod.allFunctions.add(i.type);
      if (i.kind == 1) mod.allTables.add(i.table);
      if (i.kind == 2) mod.allMemories.add(i.memory);
      if (i.kind == 3) { mod.allGlobals.add(i.global); mod.importedGlobals++; }
    }
    mod.allFunctions.addAll(mod.functions);
    mod.allTables.addAll(mod.tables);
    mod.allMemories.addAll(mod.memories);
    mod.allGlobals.addAll(mod.globals);
    if (mod.allMemories.size() > 1) throw new Fault(22, mod.places[5] >= 0 ? mod.places[5] : mod.places[2]);
    Set<String> names = new HashSet<>();
    for (Export e : mod.exports) {
      int n = List.of(mod.allFunctions.size(), mod.allTables.size(), mod.allMemories.size(), mod.allGlobals.size()).get(e.kind);
      if (e.index >= n) throw new Fault(24, mod.places[7]);
      if (!names.add(e.name)) throw new Fault(23, mod.places[7]);
    }
    if (mod.start >= 0) {
      if (mod.start >= mod.allFunctions.size()) throw new Fault(25, mod.places[8]);
      FuncType t = typeOfFunction(mod.start);
      if (!t.params.isEmpty() || !t.results.isEmpty()) throw new Fault(25, mod.places[8]);
    }
    constants();
    Set<Long> declared = declared();
    for (int i = 0; i < mod.bodies.size(); i++) new BodyCheck(mod.bodies.get(i), declared, typeOf(mod.functions.get(i))).run();
  }

  private FuncType typeOf(long t) { return mod.types.get((int) t); }
  private FuncType typeOfFunction(long f) { return typeOf(mod.allFunctions.get((int) f)); }

  private void limitsOfEngine() {
    int first = Integer.MAX_VALUE;
    int[] sizes = {0, mod.types.size(), mod.imports.size(), mod.functions.size(), mod.tables.size(), mod.memories.size(),
      mod.globals.size(), mod.exports.size(), 0, mod.elements.size(), 0, mod.data.size()};
    for (int id = 1; id < sizes.length; id++) if (sizes[id] > 64) first = Math.min(first, mod.places[id]);
    for (FuncType t : mod.types) if (t.params.size() > 16 || t.results.size() > 16) first = Math.min(first, mod.places[1]);
    for (Body b : mod.bodies) if (b.localCount > 1000 || b.bigTable || b.oddChoice) first = Math.min(first, mod.places[10]);
    if (first != Integer.MAX_VALUE) throw new Fault(40, first);
  }

  private void range(Limits l, long most, int section) {
    if (l.greatest >= 0 && l.least > l.greatest || l.least > most || l.greatest > most) throw new Fault(21, mod.places[section]);
  }

  private void constants() {
    for (int g = 0; g < mod.globals.size(); g++) constant(mod.globalInit.get(g), mod.globals.get(g).kind);
    for (Element e : mod.elements) {
      if (e.functions != null) for (long f : e.functions) if (f >= mod.allFunctions.size()) throw new Fault(28, mod.places[9]);
      if (e.mode == 0 && (e.table >= mod.allTables.size() || mod.allTables.get((int) e.table).kind != e.kind)) throw new Fault(28, mod.places[9]);
      if (e.mode == 0) constant(e.offset, 127);
      if (e.items != null) for (List<Instr> i : e.items) constant(i, e.kind);
    }
    for (Data d : mod.data) {
      if (d.mode != 0) continue;
      if (d.memory >= mod.allMemories.size()) throw new Fault(28, mod.places[11]);
      constant(d.offset, 127);
    }
  }

  private void constant(List<Instr> e, int kind) {
    List<Integer> row = new ArrayList<>();
    for (Instr i : e) {
      if (i.op >= 65 && i.op <= 68) row.add(192 - i.op);
      else if (i.op == 208) row.add((int) i.a);
      else if (i.op == 210) row.add(112);
      else if (i.op == 35 && i.a < mod.importedGlobals && mod.allGlobals.get((int) i.a).changes == 0) row.add(mod.allGlobals.get((int) i.a).kind);
      else if (i.op != 11) throw new Fault(26, i.place);
    }
    for (Instr i : e) if (i.op == 210 && i.a >= mod.allFunctions.size()) throw new Fault(28, i.place);
    if (!row.equals(List.of(kind))) throw new Fault(27, e.get(e.size() - 1).place);
  }

  private Set<Long> declared() {
    Set<Long> out = new HashSet<>();
    List<List<Instr>> expressions = new ArrayList<>(mod.globalInit);
    for (Element e : mod.elements) {
      if (e.offset != null) expressions.add(e.offset);
      if (e.items != null) expressions.addAll(e.items);
      if (e.functions != null) out.addAll(e.functions);
    }
    for (List<Instr> e : expressions) for (Instr i : e) if (i.op == 210) out.add(i.a);
    for (Export e : mod.exports) if (e.kind == 0) out.add(e.index);
    return out;
  }

  private static final class Label {
    List<Integer> wants;
    int height;
    boolean dead;
  }

  private final class BodyCheck {
    final Body body;
    final Set<Long> declared;
    final FuncType type;
    final List<Integer> locals = new ArrayList<>();
    final List<Integer> row = new ArrayList<>();
    final List<Label> labels = new ArrayList<>();
    Instr now;

    BodyCheck(Body body, Set<Long> declared, FuncType type) {
      this.body = body;
      this.declared = declared;
      this.type = type;
      locals.addAll(type.params);
      locals.addAll(body.locals);
    }

    void fail(int code) { throw new Fault(code, now.place); }
    void need(boolean there) { if (!there) fail(30); }
    Label inner() { return labels.get(labels.size() - 1); }

    int take(int kind) {
      if (row.size() == inner().height) {
        if (!inner().dead) fail(29);
        return 0;
      }
      int k = row.remove(row.size() - 1);
      if (k != 0 && kind != 0 && k != kind) fail(29);
      return k;
    }

    void put(int kind) {
      row.add(kind);
      if (row.size() > 1000) fail(40);
    }

    List<Integer> takeAll(List<Integer> kinds) {
      List<Integer> out = new ArrayList<>();
      for (int i = kinds.size() - 1; i >= 0; i--) out.add(0, take(kinds.get(i)));
      return out;
    }

    void putAll(List<Integer> kinds) { for (int k : kinds) put(k); }

    void dead() {
      while (row.size() > inner().height) row.remove(row.size() - 1);
      inner().dead = true;
    }

    Label open(List<Integer> wants) {
      if (labels.size() == 200) fail(40);
      Label l = new Label();
      l.wants = wants;
      l.height = row.size();
      labels.add(l);
      return l;
    }

    void run() {
      now = body.code.get(0);
      open(type.results);
      list(body.code, type, false);
    }

    void note() { body.most = Math.max(body.most, row.size()); }

    /** Goes through a list whose label is open, with its end, which closes the label (a 5 does not). */
    void list(List<Instr> code, FuncType block, boolean ifWithoutElse) {
      for (Instr i : code) {
        now = i;
        if (i.op == 5) {
          takeAll(block.results);
          if (row.size() != inner().height) fail(29);
          inner().dead = false;
          putAll(block.params);
          note();
        } else if (i.op == 11) {
          takeAll(block.results);
          if (row.size() != inner().height) fail(29);
          if (ifWithoutElse && !block.params.equals(block.results)) fail(29);
          labels.remove(labels.size() - 1);
          if (labels.isEmpty()) return;
          putAll(block.results);
          note();
        } else {
          one(i);
        }
      }
    }

    void one(Instr i) {
      if (i.op == 2 || i.op == 3 || i.op == 4) {
        need(i.a < mod.types.size());
        i.type = i.a >= 0 ? typeOf(i.a) : i.a == -64 ? new FuncType(List.of(), List.of()) : new FuncType(List.of(), List.of((int) -i.a));
        if (i.op == 4) take(127);
        takeAll(i.type.params);
        Label l = open(i.op == 3 ? i.type.params : i.type.results);
        putAll(i.type.params);
        note();
        list(i.body, i.type, i.op == 4 && i.otherwise == null);
        if (i.otherwise != null) list(i.otherwise, i.type, false);
        return;
      }
      names(i);
      types(i);
      note();
    }

    Label label(long x) { return labels.get(labels.size() - 1 - (int) x); }

    void names(Instr i) {
      int op = i.op;
      if (op == 12 || op == 13) need(i.a < labels.size());
      if (op == 14) { need(i.a < labels.size()); for (long x : i.row) need(x < labels.size()); }
      if (op == 16) need(i.a < mod.allFunctions.size());
      if (op == 17) { need(i.a < mod.types.size()); need(i.b < mod.allTables.size()); need(mod.allTables.get((int) i.b).kind == 112); }
      if (op >= 32 && op <= 34) need(i.a < locals.size());
      if (op == 35 || op == 36) need(i.a < mod.allGlobals.size());
      if (op == 36) need(mod.allGlobals.get((int) i.a).changes == 1);
      if (op == 37 || op == 38 || op >= 1015 && op <= 1017) need(i.a < mod.allTables.size());
      if (op >= 40 && op <= 64 || op == 1008 || op == 1010 || op == 1011) need(!mod.allMemories.isEmpty());
      if (op >= 40 && op <= 62) need(i.a < 32 && 1L << i.a <= bytesOf(op));
      if (op == 210) { need(i.a < mod.allFunctions.size()); need(declared.contains(i.a)); }
      if (op == 1008 || op == 1009) need(i.a < mod.data.size());
      if (op == 1012 || op == 1013) need(i.a < mod.elements.size());
      if (op == 1012) { need(i.b < mod.allTables.size()); need(mod.allTables.get((int) i.b).kind == mod.elements.get((int) i.a).kind); }
      if (op == 1014) {
        need(i.a < mod.allTables.size());
        need(i.b < mod.allTables.size());
        need(mod.allTables.get((int) i.a).kind == mod.allTables.get((int) i.b).kind);
      }
    }

    void types(Instr i) {
      int op = i.op;
      if (op == 0) dead();
      else if (op == 12) { i.arity = label(i.a).wants.size(); takeAll(label(i.a).wants); dead(); }
      else if (op == 13) { i.arity = label(i.a).wants.size(); take(127); takeAll(label(i.a).wants); putAll(label(i.a).wants); }
      else if (op == 14) {
        take(127);
        for (long x : i.row) {
          if (label(x).wants.size() != label(i.a).wants.size()) fail(29);
          putAll(takeAll(label(x).wants));
        }
        i.arity = label(i.a).wants.size();
        takeAll(label(i.a).wants);
        dead();
      } else if (op == 15) { takeAll(type.results); dead(); }
      else if (op == 16) { takeAll(typeOfFunction(i.a).params); putAll(typeOfFunction(i.a).results); }
      else if (op == 17) { take(127); takeAll(typeOf(i.a).params); putAll(typeOf(i.a).results); }
      else if (op == 26) take(0);
      else if (op == 27) {
        take(127);
        int a = take(0);
        int b = take(0);
        if (ref(a) || ref(b) || a != 0 && b != 0 && a != b) fail(29);
        put(a == 0 ? b : a);
      } else if (op == 28) { int k = (int) (long) i.row.get(0); take(127); take(k); take(k); put(k); }
      else if (op == 32) put(locals.get((int) i.a));
      else if (op == 33) take(locals.get((int) i.a));
      else if (op == 34) { take(locals.get((int) i.a)); put(locals.get((int) i.a)); }
      else if (op == 35) put(mod.allGlobals.get((int) i.a).kind);
      else if (op == 36) take(mod.allGlobals.get((int) i.a).kind);
      else if (op == 37) { take(127); put(mod.allTables.get((int) i.a).kind); }
      else if (op == 38) { take(mod.allTables.get((int) i.a).kind); take(127); }
      else if (op >= 40 && op <= 53) { take(127); put(accessKind(op)); }
      else if (op >= 54 && op <= 62) { take(accessKind(op)); take(127); }
      else if (op == 63) put(127);
      else if (op == 64) { take(127); put(127); }
      else if (op >= 65 && op <= 68) put(192 - op);
      else if (op >= 69 && op <= 196 || op >= 1000 && op <= 1007) {
        String s = Ops.signature(op);
        for (int k = s.length() - 2; k >= 0; k--) take(kindOf(s.charAt(k)));
        put(kindOf(s.charAt(s.length() - 1)));
      } else if (op == 208) put((int) i.a);
      else if (op == 209) { int k = take(0); if (num(k)) fail(29); put(127); }
      else if (op == 210) put(112);
      else if (op == 1015) { take(127); take(mod.allTables.get((int) i.a).kind); put(127); }
      else if (op == 1016) put(127);
      else if (op == 1017) { take(127); take(mod.allTables.get((int) i.a).kind); take(127); }
      else if (op == 1008 || op == 1010 || op == 1011 || op == 1012 || op == 1014) { take(127); take(127); take(127); }
    }
  }

  static int kindOf(char c) { return c == 'i' ? 127 : c == 'l' ? 126 : c == 'f' ? 125 : 124; }

  static int bytesOf(int op) {
    return switch (op) {
      case 44, 45, 48, 49, 58, 60 -> 1;
      case 46, 47, 50, 51, 59, 61 -> 2;
      case 40, 42, 52, 53, 54, 56, 62 -> 4;
      default -> 8;
    };
  }

  static int accessKind(int op) {
    return switch (op) {
      case 40, 44, 45, 46, 47, 54, 58, 59 -> 127;
      case 42, 56 -> 125;
      case 43, 57 -> 124;
      default -> 126;
    };
  }

  // ---------------------------------------------------------------- Part III

  static final class Ops {
    /** Operands and result, by i, l, f, d. */
    static String signature(int op) {
      if (op == 69) return "ii";
      if (op <= 79) return "iii";
      if (op == 80) return "li";
      if (op <= 90) return "lli";
      if (op <= 96) return "ffi";
      if (op <= 102) return "ddi";
      if (op <= 105) return "ii";
      if (op <= 120) return "iii";
      if (op <= 123) return "ll";
      if (op <= 138) return "lll";
      if (op <= 145) return "ff";
      if (op <= 152) return "fff";
      if (op <= 159) return "dd";
      if (op <= 166) return "ddd";
      String[] c = {"li", "fi", "fi", "di", "di", "il", "il", "fl", "fl", "dl", "dl", "if", "if", "lf", "lf", "df",
        "id", "id", "ld", "ld", "fd", "fi", "dl", "if", "ld", "ii", "ii", "ll", "ll", "ll"};
      if (op <= 196) return c[op - 167];
      String[] s = {"fi", "fi", "di", "di", "fl", "fl", "dl", "dl"};
      return s[op - 1000];
    }

    static long eval(int op, long x, long y) {
      char in = signature(op).charAt(0);
      if (op >= 1000) return truncate(op - 1000, in, x, true);
      if (op <= 90) {
        boolean wide = op >= 80;
        BigInteger sx = BigInteger.valueOf(wide ? x : (int) x);
        BigInteger sy = BigInteger.valueOf(wide ? y : (int) y);
        BigInteger ux = unsigned(x, wide);
        BigInteger uy = unsigned(y, wide);
        int k = wide ? op - 80 : op - 69;
        boolean r = switch (k) {
          case 0 -> sx.signum() == 0;
          case 1 -> sx.equals(sy);
          case 2 -> !sx.equals(sy);
          case 3 -> sx.compareTo(sy) < 0;
          case 4 -> ux.compareTo(uy) < 0;
          case 5 -> sx.compareTo(sy) > 0;
          case 6 -> ux.compareTo(uy) > 0;
          case 7 -> sx.compareTo(sy) <= 0;
          case 8 -> ux.compareTo(uy) <= 0;
          case 9 -> sx.compareTo(sy) >= 0;
          default -> ux.compareTo(uy) >= 0;
        };
        return r ? 1 : 0;
      }
      if (op <= 102) {
        double a = in == 'f' ? f(x) : d(x);
        double b = in == 'f' ? f(y) : d(y);
        boolean r = switch (in == 'f' ? op - 91 : op - 97) {
          case 0 -> a == b;
          case 1 -> a != b;
          case 2 -> a < b;
          case 3 -> a > b;
          case 4 -> a <= b;
          default -> a >= b;
        };
        return r ? 1 : 0;
      }
      if (op <= 138) return integer(op <= 120 ? op - 103 : op - 121, op > 120, x, y);
      if (op <= 152) return floats(op - 139, x, y);
      if (op <= 166) return doubles(op - 153, x, y);
      return convert(op, x);
    }

    static BigInteger unsigned(long x, boolean wide) {
      return wide ? new BigInteger(Long.toUnsignedString(x)) : BigInteger.valueOf(x & 0xffffffffL);
    }

    static float f(long x) { return Float.intBitsToFloat((int) x); }
    static double d(long x) { return Double.longBitsToDouble(x); }
    static long fb(float v) { return Float.isNaN(v) ? 0x7fc00000L : Float.floatToRawIntBits(v) & 0xffffffffL; }
    static long db(double v) { return Double.isNaN(v) ? 0x7ff8000000000000L : Double.doubleToRawLongBits(v); }

    static long integer(int k, boolean wide, long x, long y) {
      int bits = wide ? 64 : 32;
      BigInteger sx = BigInteger.valueOf(wide ? x : (int) x);
      BigInteger sy = BigInteger.valueOf(wide ? y : (int) y);
      BigInteger ux = unsigned(x, wide);
      BigInteger uy = unsigned(y, wide);
      if (k >= 6 && k <= 9 && sy.signum() == 0) throw new Trap(2);
      int by = (int) (y & bits - 1);
      BigInteger r = switch (k) {
        case 0 -> BigInteger.valueOf(bits - ux.bitLength());
        case 1 -> BigInteger.valueOf(ux.signum() == 0 ? bits : ux.getLowestSetBit());
        case 2 -> BigInteger.valueOf(ux.bitCount());
        case 3 -> sx.add(sy);
        case 4 -> sx.subtract(sy);
        case 5 -> sx.multiply(sy);
        case 6 -> sx.divide(sy);
        case 7 -> ux.divide(uy);
        case 8 -> sx.remainder(sy);
        case 9 -> ux.remainder(uy);
        case 10 -> sx.and(sy);
        case 11 -> sx.or(sy);
        case 12 -> sx.xor(sy);
        case 13 -> ux.shiftLeft(by);
        case 14 -> sx.shiftRight(by);
        case 15 -> ux.shiftRight(by);
        case 16 -> ux.shiftLeft(by).or(ux.shiftRight(bits - by));
        default -> ux.shiftRight(by).or(ux.shiftLeft(bits - by));
      };
      if (k == 6 && r.bitLength() >= bits) throw new Trap(3);
      long v = r.longValue();
      return wide ? v : v & 0xffffffffL;
    }

    static long floats(int k, long x, long y) {
      float a = f(x);
      float b = f(y);
      long low = x & 0xffffffffL;
      return switch (k) {
        case 0 -> low & 0x7fffffffL;
        case 1 -> low ^ 0x80000000L;
        case 2 -> fb((float) Math.ceil(a));
        case 3 -> fb((float) Math.floor(a));
        case 4 -> fb((float) (a < 0 || 1 / a < 0 ? Math.ceil(a) : Math.floor(a)));
        case 5 -> fb((float) Math.rint(a));
        case 6 -> fb((float) Math.sqrt(a));
        case 7 -> fb(a + b);
        case 8 -> fb(a - b);
        case 9 -> fb(a * b);
        case 10 -> fb(a / b);
        case 11 -> fb(Math.min(a, b));
        case 12 -> fb(Math.max(a, b));
        default -> low & 0x7fffffffL | y & 0x80000000L;
      };
    }

    static long doubles(int k, long x, long y) {
      double a = d(x);
      double b = d(y);
      return switch (k) {
        case 0 -> x & Long.MAX_VALUE;
        case 1 -> x ^ Long.MIN_VALUE;
        case 2 -> db(Math.ceil(a));
        case 3 -> db(Math.floor(a));
        case 4 -> db(a < 0 || 1 / a < 0 ? Math.ceil(a) : Math.floor(a));
        case 5 -> db(Math.rint(a));
        case 6 -> db(Math.sqrt(a));
        case 7 -> db(a + b);
        case 8 -> db(a - b);
        case 9 -> db(a * b);
        case 10 -> db(a / b);
        case 11 -> db(Math.min(a, b));
        case 12 -> db(Math.max(a, b));
        default -> x & Long.MAX_VALUE | y & Long.MIN_VALUE;
      };
    }

    static long truncate(int k, char in, long x, boolean saturate) {
      double a = in == 'f' ? f(x) : d(x);
      boolean wide = k >= 4;
      boolean signed = (k & 1) == 0;
      int bits = wide ? 64 : 32;
      BigInteger least = signed ? BigInteger.ONE.shiftLeft(bits - 1).negate() : BigInteger.ZERO;
      BigInteger most = BigInteger.ONE.shiftLeft(signed ? bits - 1 : bits).subtract(BigInteger.ONE);
      if (Double.isNaN(a)) {
        if (!saturate) throw new Trap(4);
        return 0;
      }
      BigInteger v;
      if (Double.isInfinite(a)) {
        if (!saturate) throw new Trap(3);
        v = a < 0 ? least : most;
      } else {
        v = new BigDecimal(a).setScale(0, RoundingMode.DOWN).toBigInteger();
        if (v.compareTo(least) < 0 || v.compareTo(most) > 0) {
          if (!saturate) throw new Trap(3);
          v = v.compareTo(least) < 0 ? least : most;
        }
      }
      return wide ? v.longValue() : v.longValue() & 0xffffffffL;
    }

    static long convert(int op, long x) {
      long low = x & 0xffffffffL;
      return switch (op) {
        case 167 -> low;
        case 168, 169 -> truncate(op - 168, 'f', x, false);
        case 170, 171 -> truncate(op - 168, 'd', x, false);
        case 172 -> (long) (int) x;
        case 173 -> low;
        case 174, 175 -> truncate(op - 170, 'f', x, false);
        case 176, 177 -> truncate(op - 170, 'd', x, false);
        case 178 -> fb(BigInteger.valueOf((int) x).floatValue());
        case 179 -> fb(unsigned(x, false).floatValue());
        case 180 -> fb(BigInteger.valueOf(x).floatValue());
        case 181 -> fb(unsigned(x, true).floatValue());
        case 182 -> fb((float) d(x));
        case 183 -> db(BigInteger.valueOf((int) x).doubleValue());
        case 184 -> db(unsigned(x, false).doubleValue());
        case 185 -> db(BigInteger.valueOf(x).doubleValue());
        case 186 -> db(unsigned(x, true).doubleValue());
        case 187 -> db(f(x));
        case 188, 190 -> low;
        case 189, 191 -> x;
        case 192 -> (byte) x & 0xffffffffL;
        case 193 -> (short) x & 0xffffffffL;
        case 194 -> (byte) x;
        case 195 -> (short) x;
        default -> (int) x;
      };
    }
  }

  // ---------------------------------------------------------------- Part IV

  static final class Func {
    Inst owner;
    Body body;
    FuncType type;
    int host = -1;
    int frames;
    boolean changed;
  }

  static final class Tab {
    int kind;
    long greatest;
    List<Integer> entries = new ArrayList<>();
  }

  static final class Mem {
    long greatest;
    byte[] bytes = new byte[0];
  }

  static final class Glob {
    int kind;
    int changes;
    long bits;
  }

  static final class Inst {
    Mod mod;
    List<Func> functions = new ArrayList<>();
    List<Tab> tables = new ArrayList<>();
    List<Mem> memories = new ArrayList<>();
    List<Glob> globals = new ArrayList<>();
    List<List<Integer>> elements = new ArrayList<>();
    List<byte[]> data = new ArrayList<>();
  }

  private final List<Func> functions = new ArrayList<>();
  private final List<Tab> tables = new ArrayList<>();
  private final List<Mem> memories = new ArrayList<>();
  private final List<Glob> globals = new ArrayList<>();
  private final List<Inst> instances = new ArrayList<>();
  private final List<Mod> modules = new ArrayList<>();
  private int references;
  private final List<Object> offers = new ArrayList<>();
  private final List<Long> arguments = new ArrayList<>();
  private final List<Integer> tape = new ArrayList<>();
  private int fed;
  private int fault = -1;
  private int place = -1;
  private int tier;

  private long evaluate(Inst inst, List<Instr> e) {
    Instr i = e.get(0);
    return switch (i.op) {
      case 35 -> inst.globals.get((int) i.a).bits;
      case 208 -> -1;
      case 210 -> functions.indexOf(inst.functions.get((int) i.a));
      case 65 -> i.a & 0xffffffffL;
      default -> i.a;
    };
  }

  private static boolean rangeFits(Limits wanted, long now, long greatest) {
    return now >= wanted.least && (wanted.greatest < 0 || greatest >= 0 && greatest <= wanted.greatest);
  }

  private boolean fits(Mod m, Import i, Object o) {
    return switch (i.kind) {
      case 0 -> o instanceof Integer || o instanceof Func f && f.type.equals(m.types.get((int) i.type));
      case 1 -> o instanceof Tab t && t.kind == i.table.kind && rangeFits(i.table.limits, t.entries.size(), t.greatest);
      case 2 -> o instanceof Mem e && rangeFits(i.memory, e.bytes.length / 65536, e.greatest);
      default -> o instanceof Glob g && g.kind == i.global.kind && g.changes == i.global.changes;
    };
  }

  private long pages() {
    long n = 0;
    for (Mem m : memories) n += m.bytes.length / 65536;
    return n;
  }

  private long entries() {
    long n = 0;
    for (Tab t : tables) n += t.entries.size();
    return n;
  }

  private static long count(Element e) { return e.functions != null ? e.functions.size() : e.items.size(); }

  int make(int module) {
    if (module < 0 || module >= modules.size()) return -1;
    if (busy()) return -10;
    List<Object> offered = new ArrayList<>(offers);
    offers.clear();
    Mod m = modules.get(module);
    if (offered.size() != m.imports.size()) return -2;
    for (int i = 0; i < offered.size(); i++) if (!fits(m, m.imports.get(i), offered.get(i))) return -3 - m.imports.get(i).kind;
    long needFunctions = functions.size() + m.functions.size();
    for (Object o : offered) if (o instanceof Integer) needFunctions++;
    long needEntries = entries();
    for (TableType t : m.tables) needEntries += t.limits.least;
    long needPages = pages();
    for (Limits l : m.memories) needPages += l.least;
    long needReferences = references;
    for (Element e : m.elements) needReferences += count(e);
    if (needFunctions > 512 || tables.size() + m.tables.size() > 32 || needEntries > 1024 || memories.size() + m.memories.size() > 16
        || needPages > 8 || globals.size() + m.globals.size() > 256 || instances.size() == 16 || needReferences > 2048) return -9;
    references = (int) needReferences;
    Inst inst = new Inst();
    inst.mod = m;
    instances.add(inst);
    for (int i = 0; i < offered.size(); i++) {
      Object o = offered.get(i);
      if (o instanceof Integer h) {
        Func f = new Func();
        f.host = h;
        f.type = m.types.get((int) m.imports.get(i).type);
        functions.add(f);
        inst.functions.add(f);
      } else if (o instanceof Func f) inst.functions.add(f);
      else if (o instanceof Tab t) inst.tables.add(t);
      else if (o instanceof Mem e) inst.memories.add(e);
      else if (o instanceof Glob g) inst.globals.add(g);
    }
    for (int b = 0; b < m.functions.size(); b++) {
      Func f = new Func();
      f.owner = inst;
      f.body = m.bodies.get(b);
      f.type = m.types.get((int) (long) m.functions.get(b));
      functions.add(f);
      inst.functions.add(f);
    }
    for (TableType t : m.tables) {
      Tab x = new Tab();
      x.kind = t.kind;
      x.greatest = t.limits.greatest;
      for (long k = 0; k < t.limits.least; k++) x.entries.add(-1);
      tables.add(x);
      inst.tables.add(x);
    }
    for (Limits l : m.memories) {
      Mem x = new Mem();
      x.greatest = l.greatest;
      x.bytes = new byte[(int) l.least * 65536];
      memories.add(x);
      inst.memories.add(x);
    }
    for (int g = 0; g < m.globals.size(); g++) {
      Glob x = new Glob();
      x.kind = m.globals.get(g).kind;
      x.changes = m.globals.get(g).changes;
      x.bits = evaluate(inst, m.globalInit.get(g));
      globals.add(x);
      inst.globals.add(x);
    }
    for (Element e : m.elements) {
      List<Integer> items = new ArrayList<>();
      if (e.functions != null) for (long f : e.functions) items.add(functions.indexOf(inst.functions.get((int) f)));
      else for (List<Instr> x : e.items) items.add((int) evaluate(inst, x));
      inst.elements.add(items);
    }
    for (Data d : m.data) inst.data.add(d.content);
    fill(inst, m);
    return instances.size() - 1;
  }

  private void fill(Inst inst, Mod m) {
    try {
      for (int e = 0; e < m.elements.size(); e++) {
        Element x = m.elements.get(e);
        if (x.mode == 0) tableInit(inst, e, (int) x.table, evaluate(inst, x.offset), 0, inst.elements.get(e).size());
        if (x.mode != 1) inst.elements.set(e, List.of());
      }
      for (int d = 0; d < m.data.size(); d++) {
        Data x = m.data.get(d);
        if (x.mode == 0) {
          memoryInit(inst, d, evaluate(inst, x.offset), 0, inst.data.get(d).length);
          inst.data.set(d, new byte[0]);
        }
      }
    } catch (Trap t) {
      state = 3;
      trap = t.code;
      steps = 0;
      return;
    }
    if (m.start >= 0) enterFromOutside(inst.functions.get((int) m.start), List.of());
  }

  private static void tableInit(Inst inst, int e, int t, long to, long from, long n) {
    List<Integer> source = inst.elements.get(e);
    List<Integer> target = inst.tables.get(t).entries;
    if (to + n > target.size() || from + n > source.size()) throw new Trap(6);
    for (long k = 0; k < n; k++) target.set((int) (to + k), source.get((int) (from + k)));
  }

  private static void memoryInit(Inst inst, int d, long to, long from, long n) {
    byte[] source = inst.data.get(d);
    byte[] target = inst.memories.get(0).bytes;
    if (to + n > target.length || from + n > source.length) throw new Trap(5);
    System.arraycopy(source, (int) from, target, (int) to, (int) n);
  }

  // ---------------------------------------------------------------- Part V

  static final class Ctx {
    List<Instr> code;
    int at;
    Instr block;
    int height;
  }

  static final class Frame {
    Func f;
    long[] locals;
    List<Long> stack = new ArrayList<>();
    List<Ctx> ctx = new ArrayList<>();
    int ask;
  }

  private final List<Frame> frames = new ArrayList<>();
  private int state;
  private int trap;
  private int steps;
  private Func asked;
  private List<Long> told = new ArrayList<>();

  private boolean busy() { return state == 1 || state == 5; }

  private static long tellBits(long bits, int kind) { return kind == 127 || kind == 125 ? bits & 0xffffffffL : bits; }

  private void enterFromOutside(Func f, List<Long> args) {
    steps = 0;
    frames.clear();
    told = new ArrayList<>();
    state = 1;
    try {
      invoke(f, args);
      settle();
    } catch (Exhausted e) {
      stop(4);
    }
  }

  private void stop(int s) {
    state = s;
    frames.clear();
    told = new ArrayList<>();
    asked = null;
  }

  private void invoke(Func f, List<Long> args) {
    if (f.owner == null) {
      asked = f;
      state = 5;
      told = new ArrayList<>(args);
      return;
    }
    int ask = f.type.params.size() + f.body.locals.size() + f.body.most;
    int sum = ask;
    for (Frame x : frames) sum += x.ask;
    if (frames.size() == 200 || sum > 4096) throw new Exhausted();
    Frame x = new Frame();
    x.f = f;
    x.ask = ask;
    x.locals = new long[f.type.params.size() + f.body.locals.size()];
    for (int i = 0; i < args.size(); i++) x.locals[i] = args.get(i);
    for (int i = 0; i < f.body.locals.size(); i++) x.locals[args.size() + i] = ref(f.body.locals.get(i)) ? -1 : 0;
    Ctx c = new Ctx();
    c.code = f.body.code;
    x.ctx.add(c);
    frames.add(x);
    f.frames++;
    if (tier > 0 && f.frames >= tier) f.changed = true;
  }

  private Frame top() { return frames.get(frames.size() - 1); }

  private void returnFrom() {
    Frame x = frames.remove(frames.size() - 1);
    int n = x.f.type.results.size();
    List<Long> results = new ArrayList<>(x.stack.subList(x.stack.size() - n, x.stack.size()));
    if (frames.isEmpty()) {
      state = 2;
      told = results;
    } else top().stack.addAll(results);
  }

  private void settle() {
    while (state == 1) {
      Frame x = top();
      Ctx c = x.ctx.get(x.ctx.size() - 1);
      Instr i = c.code.get(c.at);
      if (i.op == 11 || i.op == 5) {
        x.ctx.remove(x.ctx.size() - 1);
        if (x.ctx.isEmpty()) returnFrom();
      } else if (i.op == 2 || i.op == 3) {
        c.at++;
        push(x, i, i.body);
      } else return;
    }
  }

  private static void push(Frame x, Instr block, List<Instr> code) {
    Ctx c = new Ctx();
    c.code = code;
    c.block = block;
    c.height = x.stack.size() - block.type.params.size();
    x.ctx.add(c);
  }

  private long pop(Frame x) { return x.stack.remove(x.stack.size() - 1); }

  private void branch(Frame x, long label) {
    int at = x.ctx.size() - 1 - (int) label;
    Ctx c = x.ctx.get(at);
    FuncType t = c.block == null ? x.f.type : c.block.type;
    boolean loop = c.block != null && c.block.op == 3;
    int n = loop ? t.params.size() : t.results.size();
    List<Long> kept = new ArrayList<>(x.stack.subList(x.stack.size() - n, x.stack.size()));
    while (x.stack.size() > c.height) pop(x);
    x.stack.addAll(kept);
    while (x.ctx.size() > at + 1) x.ctx.remove(x.ctx.size() - 1);
    if (loop) c.at = 0;
    else {
      x.ctx.remove(at);
      if (x.ctx.isEmpty()) returnFrom();
    }
  }

  int run(int n) {
    if (n < 0 || n > 100000) return -1;
    int done = 0;
    while (state == 1 && done < n) {
      done++;
      steps++;
      try {
        Frame x = top();
        Ctx c = x.ctx.get(x.ctx.size() - 1);
        exec(x, c.code.get(c.at++));
        settle();
      } catch (Trap t) {
        stop(3);
        trap = t.code;
      } catch (Exhausted e) {
        stop(4);
      }
    }
    return done;
  }

  private List<Long> popAll(Frame x, int n) {
    List<Long> out = new ArrayList<>();
    for (int i = 0; i < n; i++) out.add(0, pop(x));
    return out;
  }

  private static long low(long x) { return x & 0xffffffffL; }

  private void exec(Frame x, Instr i) {
    Inst inst = x.f.owner;
    int op = i.op;
    if (op == 0) throw new Trap(1);
    else if (op == 4) {
      boolean yes = (int) pop(x) != 0;
      if (yes) push(x, i, i.body);
      else if (i.otherwise != null) push(x, i, i.otherwise);
    } else if (op == 12) branch(x, i.a);
    else if (op == 13) { if ((int) pop(x) != 0) branch(x, i.a); }
    else if (op == 14) {
      long k = low(pop(x));
      branch(x, k < i.row.size() ? i.row.get((int) k) : i.a);
    } else if (op == 15) returnFrom();
    else if (op == 16) {
      Func f = inst.functions.get((int) i.a);
      invoke(f, popAll(x, f.type.params.size()));
    } else if (op == 17) {
      long k = low(pop(x));
      List<Integer> entries = inst.tables.get((int) i.b).entries;
      if (k >= entries.size()) throw new Trap(7);
      int r = entries.get((int) k);
      if (r < 0) throw new Trap(8);
      Func f = functions.get(r);
      if (!f.type.equals(inst.mod.types.get((int) i.a))) throw new Trap(9);
      invoke(f, popAll(x, f.type.params.size()));
    } else if (op == 26) pop(x);
    else if (op == 27 || op == 28) {
      boolean yes = (int) pop(x) != 0;
      long b = pop(x);
      long a = pop(x);
      x.stack.add(yes ? a : b);
    } else if (op == 32) x.stack.add(x.locals[(int) i.a]);
    else if (op == 33) x.locals[(int) i.a] = pop(x);
    else if (op == 34) x.locals[(int) i.a] = x.stack.get(x.stack.size() - 1);
    else if (op == 35) x.stack.add(inst.globals.get((int) i.a).bits);
    else if (op == 36) inst.globals.get((int) i.a).bits = pop(x);
    else if (op == 37) {
      long k = low(pop(x));
      List<Integer> entries = inst.tables.get((int) i.a).entries;
      if (k >= entries.size()) throw new Trap(6);
      x.stack.add((long) entries.get((int) k));
    } else if (op == 38) {
      long v = pop(x);
      long k = low(pop(x));
      List<Integer> entries = inst.tables.get((int) i.a).entries;
      if (k >= entries.size()) throw new Trap(6);
      entries.set((int) k, (int) v);
    } else if (op >= 40 && op <= 64) memoryOp(x, i, inst.memories.get(0));
    else if (op == 65) x.stack.add(low(i.a));
    else if (op >= 66 && op <= 68) x.stack.add(i.a);
    else if (op == 208) x.stack.add(-1L);
    else if (op == 209) x.stack.add(pop(x) == -1 ? 1L : 0L);
    else if (op == 210) x.stack.add((long) functions.indexOf(inst.functions.get((int) i.a)));
    else if (op >= 1008) stretch(x, i, inst);
    else if (op >= 69) {
      boolean two = Ops.signature(op).length() == 3;
      long b = two ? pop(x) : 0;
      x.stack.add(Ops.eval(op, pop(x), b));
    }
  }

  private void memoryOp(Frame x, Instr i, Mem m) {
    int op = i.op;
    if (op == 63) { x.stack.add((long) m.bytes.length / 65536); return; }
    if (op == 64) {
      long n = low(pop(x));
      long now = m.bytes.length / 65536;
      long most = m.greatest < 0 ? 65536 : m.greatest;
      if (now + n > most || pages() + n > 8) x.stack.add(0xffffffffL);
      else {
        m.bytes = Arrays.copyOf(m.bytes, (int) (now + n) * 65536);
        x.stack.add(now);
      }
      return;
    }
    int n = bytesOf(op);
    long v = op >= 54 ? pop(x) : 0;
    long at = low(pop(x)) + i.b;
    if (at + n > m.bytes.length) throw new Trap(5);
    if (op >= 54) {
      for (int k = 0; k < n; k++) m.bytes[(int) at + k] = (byte) (v >> 8 * k);
      return;
    }
    BigInteger r = BigInteger.ZERO;
    for (int k = n - 1; k >= 0; k--) r = r.shiftLeft(8).or(BigInteger.valueOf(m.bytes[(int) at + k] & 255));
    if (op >= 44 && op % 2 == 0 && r.testBit(8 * n - 1)) r = r.subtract(BigInteger.ONE.shiftLeft(8 * n));
    x.stack.add(tellBits(r.longValue(), accessKind(op)));
  }

  private void stretch(Frame x, Instr i, Inst inst) {
    int k = i.op - 1000;
    if (k == 9) { inst.data.set((int) i.a, new byte[0]); return; }
    if (k == 13) { inst.elements.set((int) i.a, List.of()); return; }
    if (k == 16) { x.stack.add((long) inst.tables.get((int) i.a).entries.size()); return; }
    if (k == 15) {
      long n = low(pop(x));
      long r = pop(x);
      Tab t = inst.tables.get((int) i.a);
      long now = t.entries.size();
      if (now + n > (t.greatest < 0 ? 4294967295L : t.greatest) || entries() + n > 1024) x.stack.add(0xffffffffL);
      else {
        for (long j = 0; j < n; j++) t.entries.add((int) r);
        x.stack.add(now);
      }
      return;
    }
    long n = low(pop(x));
    long from = pop(x);
    long to = low(pop(x));
    if (k == 8) memoryInit(inst, (int) i.a, to, low(from), n);
    else if (k == 12) tableInit(inst, (int) i.a, (int) i.b, to, low(from), n);
    else if (k == 10) {
      byte[] m = inst.memories.get(0).bytes;
      if (to + n > m.length || low(from) + n > m.length) throw new Trap(5);
      byte[] copy = Arrays.copyOfRange(m, (int) low(from), (int) (low(from) + n));
      System.arraycopy(copy, 0, m, (int) to, (int) n);
    } else if (k == 11) {
      byte[] m = inst.memories.get(0).bytes;
      if (to + n > m.length) throw new Trap(5);
      for (long j = 0; j < n; j++) m[(int) (to + j)] = (byte) from;
    } else if (k == 14) {
      List<Integer> a = inst.tables.get((int) i.a).entries;
      List<Integer> b = inst.tables.get((int) i.b).entries;
      if (to + n > a.size() || low(from) + n > b.size()) throw new Trap(6);
      List<Integer> copy = new ArrayList<>(b.subList((int) low(from), (int) (low(from) + n)));
      for (int j = 0; j < n; j++) a.set((int) to + j, copy.get(j));
    } else {
      List<Integer> a = inst.tables.get((int) i.a).entries;
      if (to + n > a.size()) throw new Trap(6);
      for (int j = 0; j < n; j++) a.set((int) to + j, (int) from);
    }
  }

  // ---------------------------------------------------------------- the face

  int feed(int a, int b, int c, int d, int e) {
    if (fed + 20 > 40960) return -1;
    fed += 20;
    for (int v : new int[] {a, b, c, d, e}) for (int k = 24; k >= 0; k -= 8) tape.add(v >> k & 255);
    return tape.size();
  }

  int module(int n) {
    if (n < 0 || n > tape.size() || modules.size() == 16) return -2;
    in = new int[n];
    for (int i = 0; i < n; i++) in[i] = tape.get(i);
    tape.clear();
    pos = 0;
    end = n;
    mod = new Mod();
    try {
      read();
      check();
    } catch (Fault f) {
      fault = f.code;
      place = f.place;
      return -1;
    }
    fault = 0;
    place = -1;
    modules.add(mod);
    return modules.size() - 1;
  }

  int fault(int what) { return what == 0 ? fault : what == 1 ? place : -1; }

  private Object exported(int instance, int k) {
    if (instance < 0 || instance >= instances.size()) return null;
    Inst i = instances.get(instance);
    if (k < 0 || k >= i.mod.exports.size()) return null;
    Export e = i.mod.exports.get(k);
    return switch (e.kind) {
      case 0 -> i.functions.get((int) e.index);
      case 1 -> i.tables.get((int) e.index);
      case 2 -> i.memories.get((int) e.index);
      default -> i.globals.get((int) e.index);
    };
  }

  int offer(int instance, int k) {
    Object o = instance == -1 ? (k >= 0 && k <= 63 ? (Object) k : null) : exported(instance, k);
    if (o == null || offers.size() == 64) return -1;
    offers.add(o);
    return offers.size();
  }

  int argument(long bits) {
    if (arguments.size() == 16) return -1;
    arguments.add(bits);
    return arguments.size();
  }

  private boolean suit(List<Integer> kinds) {
    if (kinds.size() != arguments.size()) return false;
    for (int i = 0; i < kinds.size(); i++) {
      long a = arguments.get(i);
      if (ref(kinds.get(i)) && (a < -1 || a > 2147483647L)) return false;
      if (kinds.get(i) == 112 && a >= functions.size()) return false;
    }
    return true;
  }

  private List<Long> takeArguments(List<Integer> kinds) {
    List<Long> out = new ArrayList<>();
    for (int i = 0; i < kinds.size(); i++) out.add(tellBits(arguments.get(i), kinds.get(i)));
    arguments.clear();
    return out;
  }

  boolean call(int instance, int k) {
    if (busy() || !(exported(instance, k) instanceof Func f) || !suit(f.type.params)) return false;
    enterFromOutside(f, takeArguments(f.type.params));
    return true;
  }

  boolean give() {
    if (!busy()) return false;
    stop(6);
    return true;
  }

  boolean answer() {
    if (state != 5 || !suit(asked.type.results)) return false;
    List<Long> results = takeArguments(asked.type.results);
    asked = null;
    if (frames.isEmpty()) {
      state = 2;
      told = results;
      return true;
    }
    state = 1;
    told = new ArrayList<>();
    top().stack.addAll(results);
    settle();
    return true;
  }

  int state(int what) {
    int changed = 0;
    for (Func f : functions) changed += f.changed ? 1 : 0;
    return switch (what) {
      case 0 -> state;
      case 1 -> trap;
      case 2 -> steps;
      case 3 -> busy() ? frames.size() : 0;
      case 4 -> state == 5 ? asked.host : -1;
      case 5 -> modules.size();
      case 6 -> instances.size();
      case 7 -> functions.size();
      case 8 -> (int) (8 - pages());
      case 9 -> (int) (1024 - entries());
      case 10 -> tape.size();
      case 11 -> changed;
      case 12 -> 0;
      default -> -1;
    };
  }

  long value(int k) { return (state == 2 || state == 5) && k >= 0 && k < told.size() ? told.get(k) : 0; }

  int tier(int n) {
    if (n < 0) return -1;
    int was = tier;
    tier = n;
    return was;
  }

  int export(int instance, int k, int what) {
    Object o = exported(instance, k);
    if (o == null) return -1;
    if (what == 0) return o instanceof Func ? 0 : o instanceof Tab ? 1 : o instanceof Mem ? 2 : 3;
    if (what == 1) return o instanceof Func ? functions.indexOf(o) : o instanceof Tab ? tables.indexOf(o) : o instanceof Mem ? memories.indexOf(o) : globals.indexOf(o);
    if (what == 2 && o instanceof Func f) return f.type.params.size();
    if (what == 3 && o instanceof Func f) return f.type.results.size();
    if (what == 4 && o instanceof Mem m) return m.bytes.length / 65536;
    if (what == 4 && o instanceof Tab t) return t.entries.size();
    if (what == 5 && o instanceof Glob g) return g.kind;
    return -1;
  }

  int memory(int instance, int k, int address) {
    return exported(instance, k) instanceof Mem m && low(address) < m.bytes.length ? m.bytes[address] & 255 : -1;
  }

  boolean poke(int instance, int k, int address, int v) {
    if (busy() || memory(instance, k, address) < 0) return false;
    ((Mem) exported(instance, k)).bytes[address] = (byte) v;
    return true;
  }

  int table(int instance, int k, int index) {
    return exported(instance, k) instanceof Tab t && index >= 0 && index < t.entries.size() ? t.entries.get(index) : -2;
  }

  long global(int instance, int k) {
    return exported(instance, k) instanceof Glob g ? tellBits(g.bits, g.kind) : 0;
  }
}
