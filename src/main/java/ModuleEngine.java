import java.util.Arrays;

/**
 * An engine for modules of bytes: it reads and checks what is fed to it, links modules to one another and to HOST,
 * and calls what they export, step by step. The document DOC.md says what each method promises.
 */
public final class ModuleEngine {
    private static final int TAPE = 40960;
    private static final int MODULES = 16;
    private static final int INSTANCES = 16;
    private static final int FUNCTIONS = 512;
    private static final int TABLES = 32;
    private static final int ENTRIES = 1024;
    private static final int MEMORIES = 16;
    private static final int PAGES = 8;
    private static final int PAGE = 65536;
    private static final int GLOBALS = 256;
    private static final int REFERENCES = 2048;
    private static final int OFFERS = 64;
    private static final int ROW = 64;
    private static final int SIDE = 16;
    private static final int LABELS = 200;
    private static final int LOCALS = 1000;
    private static final int OPERANDS = 1000;
    private static final int FRAMES = 200;
    private static final int VALUES = 4096;
    private static final int STEPS = 100000;
    // Far above the instructions that the steps of one run() can take, those that are no steps counted too.
    private static final int TURNS = 50000000;

    private static final long LOW = 0xFFFFFFFFL;

    private static final int I32 = 127;
    private static final int I64 = 126;
    private static final int F32 = 125;
    private static final int F64 = 124;
    private static final int FUNCTION = 112;
    private static final int OUTSIDE = 111;

    private static final int KIND_FUNCTION = 0;
    private static final int KIND_TABLE = 1;
    private static final int KIND_MEMORY = 2;
    private static final int KIND_GLOBAL = 3;
    private static final int KIND_HOST = 4;

    private static final int RUNNING = 1;
    private static final int ENDED = 2;
    private static final int TRAPPED = 3;
    private static final int EXHAUSTED = 4;
    private static final int ASKED = 5;
    private static final int GIVEN_UP = 6;

    private final Bytes bytes;
    private final Types types;
    private final Reader reader;
    private final Checker checker;
    private final Store store;
    private final Machine machine;
    private final Module[] modules;
    private final long[] arguments;
    private Module draft;
    private int moduleCount;
    private int fed;
    private int tapeStart;
    private int latestFault;
    private int latestPlace;
    private int argumentCount;

    public ModuleEngine() {
        bytes = new Bytes();
        types = new Types();
        reader = new Reader(bytes, types);
        checker = new Checker(bytes, types);
        store = new Store(bytes, types);
        machine = new Machine(store, types);
        modules = new Module[MODULES];
        arguments = new long[SIDE];
        latestFault = -1;
        latestPlace = -1;
    }

    public int feed(int a, int b, int c, int d, int e) {
        if (fed + 20 > TAPE) {
            return -1;
        }
        bytes.write(fed, a);
        bytes.write(fed + 4, b);
        bytes.write(fed + 8, c);
        bytes.write(fed + 12, d);
        bytes.write(fed + 16, e);
        fed += 20;
        return fed - tapeStart;
    }

    public int module(int n) {
        if (n < 0 || n > fed - tapeStart || moduleCount == MODULES) {
            return -2;
        }
        if (draft == null) {
            draft = new Module();
        }
        int typesBefore = types.count;
        draft.clear();
        bytes.open(tapeStart, tapeStart + n);
        tapeStart = fed;
        reader.open(draft);
        for (int i = 0; i < TAPE && reader.hasSection(); i++) {
            int id = reader.openSection();
            reader.readContent(id);
            reader.closeSection();
        }
        reader.close();
        checker.outline(draft);
        for (int body = 0; body < draft.rows[Module.BODIES] && bytes.fault == 0; body++) {
            checker.body(body);
        }
        latestFault = bytes.fault;
        latestPlace = bytes.place;
        if (bytes.fault != 0) {
            types.count = typesBefore;
            return -1;
        }
        modules[moduleCount] = draft;
        draft = null;
        moduleCount++;
        return moduleCount - 1;
    }

    public int fault(int what) {
        if (what == 0) {
            return latestFault;
        }
        return what == 1 ? latestPlace : -1;
    }

    public int offer(int instance, int k) {
        if (instance == -1) {
            return k >= 0 && k < ROW ? store.addOffer(KIND_HOST, k) : -1;
        }
        if (!store.exports(instance, k)) {
            return -1;
        }
        return store.addOffer(store.exportKind(instance, k), store.exportNumber(instance, k));
    }

    public int make(int module) {
        if (module < 0 || module >= moduleCount) {
            return -1;
        }
        if (machine.busy()) {
            return -10;
        }
        Module chosen = modules[module];
        int refusal = store.refusal(chosen);
        if (refusal != 0) {
            store.offerCount = 0;
            return refusal;
        }
        Instance made = store.link(chosen);
        store.offerCount = 0;
        int trap = store.fill(made);
        if (trap != 0) {
            machine.begin();
            machine.fail(trap);
        } else if (chosen.start >= 0) {
            machine.begin();
            machine.invoke(made.functions[chosen.start], 0);
            machine.advance(0);
        }
        return store.instanceCount - 1;
    }

    public int argument(long bits) {
        if (argumentCount == SIDE) {
            return -1;
        }
        arguments[argumentCount] = bits;
        argumentCount++;
        return argumentCount;
    }

    public boolean call(int instance, int k) {
        if (machine.busy() || !exportIs(instance, k, KIND_FUNCTION)) {
            return false;
        }
        int function = store.exportNumber(instance, k);
        int row = Types.parameters(store.typeOf(function));
        if (!argumentsSuit(row)) {
            return false;
        }
        machine.begin();
        machine.take(arguments, row, 0);
        argumentCount = 0;
        machine.invoke(function, 0);
        machine.advance(0);
        return true;
    }

    public int run(int n) {
        if (n < 0 || n > STEPS) {
            return -1;
        }
        return machine.state == RUNNING ? machine.advance(n) : 0;
    }

    public boolean give() {
        if (!machine.busy()) {
            return false;
        }
        machine.stop(GIVEN_UP);
        return true;
    }

    public boolean answer() {
        if (machine.state != ASKED) {
            return false;
        }
        int row = Types.results(store.typeOf(machine.asked));
        if (!argumentsSuit(row)) {
            return false;
        }
        machine.resume(arguments, row);
        argumentCount = 0;
        machine.advance(0);
        return true;
    }

    public int state(int what) {
        switch (what) {
            case 0: return machine.state;
            case 1: return machine.trap;
            case 2: return machine.steps;
            case 3: return machine.busy() ? machine.depth : 0;
            case 4: return machine.state == ASKED ? store.hostNumber(machine.asked) : -1;
            case 5: return moduleCount;
            case 6: return store.instanceCount;
            case 7: return store.counts[KIND_FUNCTION];
            case 8: return PAGES - store.pagesUsed;
            case 9: return ENTRIES - store.entriesUsed;
            case 10: return fed - tapeStart;
            case 11: return machine.changedOver;
            case 12: return machine.unsound;
            default: return -1;
        }
    }

    public long value(int k) {
        return k >= 0 && k < machine.toldCount ? machine.told[k] : 0;
    }

    public int tier(int n) {
        if (n < 0) {
            return -1;
        }
        int before = machine.threshold;
        machine.threshold = n;
        return before;
    }

    public int export(int instance, int k, int what) {
        if (!store.exports(instance, k)) {
            return -1;
        }
        int kind = store.exportKind(instance, k);
        int number = store.exportNumber(instance, k);
        switch (what) {
            case 0: return kind;
            case 1: return number;
            case 2: return kind == KIND_FUNCTION ? types.lengths[Types.parameters(store.typeOf(number))] : -1;
            case 3: return kind == KIND_FUNCTION ? types.lengths[Types.results(store.typeOf(number))] : -1;
            case 4: return store.sizeOf(kind, number);
            case 5: return kind == KIND_GLOBAL ? store.globalType(number) : -1;
            default: return -1;
        }
    }

    public int memory(int instance, int k, int address) {
        if (!exportIs(instance, k, KIND_MEMORY)) {
            return -1;
        }
        int number = store.exportNumber(instance, k);
        return store.within(number, address & LOW, 1) ? (int) store.load(number, address, 1) : -1;
    }

    public boolean poke(int instance, int k, int address, int v) {
        if (machine.busy() || !exportIs(instance, k, KIND_MEMORY)) {
            return false;
        }
        int number = store.exportNumber(instance, k);
        if (!store.within(number, address & LOW, 1)) {
            return false;
        }
        store.save(number, address, 1, v);
        return true;
    }

    public int table(int instance, int k, int index) {
        if (!exportIs(instance, k, KIND_TABLE)) {
            return -2;
        }
        int number = store.exportNumber(instance, k);
        return index >= 0 && index < store.tableSize(number) ? store.entries[number][index] : -2;
    }

    public long global(int instance, int k) {
        if (!exportIs(instance, k, KIND_GLOBAL)) {
            return 0;
        }
        int number = store.exportNumber(instance, k);
        return Types.told(store.globals[number], store.globalType(number));
    }

    private boolean exportIs(int instance, int k, int kind) {
        return store.exports(instance, k) && store.exportKind(instance, k) == kind;
    }

    private boolean argumentsSuit(int row) {
        if (argumentCount != types.lengths[row]) {
            return false;
        }
        for (int i = 0; i < argumentCount; i++) {
            int kind = types.kind(row, i);
            long greatest = kind == FUNCTION ? store.counts[KIND_FUNCTION] - 1 : Integer.MAX_VALUE;
            if (Types.isReference(kind) && (arguments[i] < -1 || arguments[i] > greatest)) {
                return false;
            }
        }
        return true;
    }

    /**
     * The function types of all modules, each kept once, so that equal rows have equal numbers. Type t has the rows
     * 2 t (parameters) and 2 t + 1 (results). Types 0 to 6 are the block types that are no numbers.
     */
    private static final class Types {
        private static final byte[] BLOCK_KINDS = {64, I32, I64, F32, F64, FUNCTION, OUTSIDE};
        private static final int MOST = 7 + MODULES * ROW;

        final byte[] kinds = new byte[2 * MOST * SIDE];
        final int[] lengths = new int[2 * MOST];
        int count;

        Types() {
            for (int t = 1; t < BLOCK_KINDS.length; t++) {
                lengths[2 * t + 1] = 1;
                kinds[(2 * t + 1) * SIDE] = BLOCK_KINDS[t];
            }
            count = BLOCK_KINDS.length;
        }

        static int parameters(int type) {
            return 2 * type;
        }

        static int results(int type) {
            return 2 * type + 1;
        }

        static boolean isReference(int kind) {
            return kind == FUNCTION || kind == OUTSIDE;
        }

        static boolean isNumber(int kind) {
            return kind >= F64 && kind <= I32;
        }

        static long told(long bits, int kind) {
            return kind == I32 || kind == F32 ? bits & LOW : bits;
        }

        static int ofBlock(int kind) {
            for (int t = 1; t < BLOCK_KINDS.length; t++) {
                if (BLOCK_KINDS[t] == kind) {
                    return t;
                }
            }
            return 0;
        }

        int kind(int row, int i) {
            return kinds[row * SIDE + i];
        }

        /** Writes into the type that settle() will look at. */
        void draft(int side, int i, int kind) {
            if (count < MOST && i < SIDE) {
                kinds[(2 * count + side) * SIDE + i] = (byte) kind;
            }
        }

        void draftLength(int side, int length) {
            if (count < MOST) {
                lengths[2 * count + side] = length;
            }
        }

        int settle() {
            for (int t = 0; t < count; t++) {
                if (count == MOST || sameRow(2 * t, 2 * count) && sameRow(2 * t + 1, 2 * count + 1)) {
                    return t;
                }
            }
            count++;
            return count - 1;
        }

        boolean sameRow(int one, int other) {
            if (lengths[one] != lengths[other]) {
                return false;
            }
            for (int i = 0; i < lengths[one]; i++) {
                if (kind(one, i) != kind(other, i)) {
                    return false;
                }
            }
            return true;
        }
    }

    /** The tape, and the reading of numbers, names and instructions from a part of it, up to the first fault. */
    private static final class Bytes {
        private static final int NONE = 0;
        private static final int ALONE = 1;
        private static final int ONE = 2;
        private static final int TWO = 3;
        private static final int BLOCK = 4;
        private static final int BRANCHES = 5;
        private static final int KINDS = 6;
        private static final int ZERO = 7;
        private static final int WHOLE_32 = 8;
        private static final int WHOLE_64 = 9;
        private static final int FOUR_BYTES = 10;
        private static final int EIGHT_BYTES = 11;
        private static final int REFERENCE = 12;
        private static final int ONE_AND_ZERO = 13;
        private static final int TWO_ZEROS = 14;
        private static final int[] FORMS = {
            1, 1, 4, 4, 4, 1, 0, 0, 0, 0, 0, 1, 2, 2, 5, 1, 2, 3, 0, 0, 0, 0, 0, 0, 0, 0, 1, 1, 6, 0, 0, 0,
            2, 2, 2, 2, 2, 2, 2, 0, 3, 3, 3, 3, 3, 3, 3, 3, 3, 3, 3, 3, 3, 3, 3, 3, 3, 3, 3, 3, 3, 3, 3, 7,
            7, 8, 9, 10, 11};
        private static final int[] PREFIXED_FORMS = {1, 1, 1, 1, 1, 1, 1, 1, 13, 2, 14, 7, 3, 2, 3, 2, 2, 2};

        final byte[] tape = new byte[TAPE];
        int start;
        int at;
        int end;
        int fault;
        int place;
        boolean dataCounted;
        int begin;
        int op;
        long first;
        long second;
        int row;
        long rowLength;

        void write(int where, int four) {
            for (int i = 0; i < 4; i++) {
                tape[where + i] = (byte) (four >> (24 - 8 * i));
            }
        }

        void open(int from, int to) {
            start = from;
            at = from;
            end = to;
            fault = 0;
            place = -1;
            dataCounted = false;
        }

        /** Goes back to bytes that were read without a fault, to take what they say. */
        void reread(int from) {
            at = from;
            end = TAPE;
            fault = 0;
        }

        void refuse(int why, int where) {
            if (fault == 0) {
                fault = why;
                place = where - start;
            }
        }

        int next() {
            if (at < end) {
                at++;
                return tape[at - 1] & 255;
            }
            if (fault == 0) {
                fault = 1;
                place = end - start;
            }
            return 0;
        }

        long u32() {
            long number = 0;
            for (int i = 0; i < 5; i++) {
                int b = next();
                if (fault != 0) {
                    return 0;
                }
                if (i == 4 && b > 15) {
                    refuse(4, at - 1);
                    return 0;
                }
                number |= (long) (b & 127) << (7 * i);
                if (b < 128) {
                    return number;
                }
            }
            return number;
        }

        private long signed(int bits) {
            int most = (bits + 6) / 7;
            long number = 0;
            for (int i = 0; i < most; i++) {
                int b = next();
                if (fault != 0) {
                    return 0;
                }
                if (i == most - 1 && !endsSigned(b, bits - 7 * i)) {
                    refuse(4, at - 1);
                    return 0;
                }
                number |= (long) (b & 127) << (7 * i);
                if (b < 128) {
                    int above = Math.max(0, 64 - 7 * (i + 1));
                    return number << above >> above;
                }
            }
            return number;
        }

        private static boolean endsSigned(int b, int bitsLeft) {
            int fromSignOn = b >> (bitsLeft - 1);
            return fromSignOn == 0 || fromSignOn == 127 >> (bitsLeft - 1);
        }

        private long fixed(int count) {
            long number = 0;
            for (int i = 0; i < count; i++) {
                number |= (long) next() << (8 * i);
            }
            return number;
        }

        /** A byte that is at most the greatest; where it stands in the document only such ones may be. */
        int choice(int greatest) {
            int where = at;
            int b = next();
            if (b > greatest) {
                refuse(7, where);
                return 0;
            }
            return b;
        }

        int referenceKind() {
            int where = at;
            int b = next();
            if (!Types.isReference(b)) {
                refuse(8, where);
            }
            return b;
        }

        int valueKind() {
            int where = at;
            int b = next();
            if (!Types.isReference(b) && !Types.isNumber(b)) {
                refuse(8, where);
            }
            return b;
        }

        /** A row of bytes, left in row and rowLength. */
        void text() {
            rowLength = u32();
            row = at;
            if (fault != 0) {
                return;
            }
            if (rowLength > end - at) {
                refuse(1, end);
                return;
            }
            at += (int) rowLength;
        }

        void name() {
            text();
            int where = row;
            for (int i = 0; i < rowLength && fault == 0 && where < at; i++) {
                int size = characterSize(where);
                if (size == 0) {
                    refuse(9, where);
                }
                where += size;
            }
        }

        /** How many bytes the character at a place of the name that ends here has; 0 when it is none. */
        private int characterSize(int where) {
            int b = tape[where] & 255;
            if (b < 128) {
                return 1;
            }
            int size = b < 192 ? 0 : b < 224 ? 2 : b < 240 ? 3 : b < 248 ? 4 : 0;
            if (size == 0 || where + size > at) {
                return 0;
            }
            int character = b & (127 >> size);
            for (int i = 1; i < size; i++) {
                int more = tape[where + i] & 255;
                if (more < 128 || more > 191) {
                    return 0;
                }
                character = character << 6 | more & 63;
            }
            int least = size == 2 ? 128 : size == 3 ? 2048 : 65536;
            boolean allowed = character >= least && character <= 1114111 && (character < 55296 || character > 57343);
            return allowed ? size : 0;
        }

        /** Reads an instruction; those behind 252 get the numbers 200 .. 207 and 220 .. 229. */
        void instruction() {
            begin = at;
            first = 0;
            second = 0;
            op = next();
            if (fault != 0) {
                return;
            }
            switch (op == 252 ? prefixed() : form(op)) {
                case NONE: refuse(10, begin); break;
                case ONE: first = u32(); break;
                case TWO: first = u32(); second = u32(); break;
                case BLOCK: blockType(); break;
                case BRANCHES: branches(); break;
                case KINDS: kinds(); break;
                case ZERO: choice(0); break;
                case WHOLE_32: first = signed(32); break;
                case WHOLE_64: first = signed(64); break;
                case FOUR_BYTES: first = fixed(4); break;
                case EIGHT_BYTES: first = fixed(8); break;
                case REFERENCE: first = referenceKind(); break;
                case ONE_AND_ZERO: first = u32(); choice(0); break;
                case TWO_ZEROS: choice(0); choice(0); break;
                default: break;
            }
        }

        private static int form(int op) {
            if (op < FORMS.length) {
                return FORMS[op];
            }
            if (op == 208) {
                return REFERENCE;
            }
            if (op == 210) {
                return ONE;
            }
            return op <= 196 || op == 209 ? ALONE : NONE;
        }

        private int prefixed() {
            long k = u32();
            if (k >= PREFIXED_FORMS.length) {
                return NONE;
            }
            if ((k == 8 || k == 9) && !dataCounted) {
                refuse(11, begin);
            }
            op = (int) (k < 8 ? 200 + k : 212 + k);
            return PREFIXED_FORMS[(int) k];
        }

        /** A type's number, or the byte of a type (64 too) below zero. */
        private void blockType() {
            int where = at;
            int b = at < end ? tape[at] & 255 : 0;
            if (b == 64 || Types.isReference(b) || Types.isNumber(b)) {
                at++;
                first = -b;
                return;
            }
            first = signed(33);
            if (first < 0) {
                refuse(8, where);
            }
        }

        private void branches() {
            rowLength = u32();
            row = at;
            for (long i = 0; i < rowLength && fault == 0; i++) {
                u32();
            }
            first = u32();
        }

        private void kinds() {
            rowLength = u32();
            for (long i = 0; i < rowLength && fault == 0; i++) {
                first = valueKind();
            }
        }
    }

    /** A module as it was read: what its sections have, in rows of numbers, and the code that was made of its bodies. */
    private static final class Module {
        static final int TYPES = 1;
        static final int IMPORTS = 2;
        static final int OWN_FUNCTIONS = 3;
        static final int OWN_TABLES = 4;
        static final int OWN_MEMORIES = 5;
        static final int OWN_GLOBALS = 6;
        static final int EXPORTS = 7;
        static final int START = 8;
        static final int ELEMENTS = 9;
        static final int BODIES = 10;
        static final int DATA = 11;
        static final int DATA_COUNT = 12;

        static final int FLAW_LIMIT = 0;
        static final int FLAW_TYPE = 1;
        static final int FLAW_RANGE = 2;

        static final int ACTIVE = 0;
        static final int PASSIVE = 1;
        static final int DECLARED = 2;

        static final int GLOBAL_WIDTH = 3;
        static final int GLOBAL_KIND = 0;
        static final int GLOBAL_CHANGES = 1;
        static final int GLOBAL_AT = 2;

        static final int EXPORT_WIDTH = 4;
        static final int EXPORT_KIND = 0;
        static final int EXPORT_INDEX = 1;
        static final int EXPORT_NAME = 2;
        static final int EXPORT_LENGTH = 3;

        static final int ELEMENT_WIDTH = 7;
        static final int ELEMENT_MODE = 0;
        static final int ELEMENT_TABLE = 1;
        static final int ELEMENT_KIND = 2;
        static final int ELEMENT_PLACE = 3;
        static final int ELEMENT_COUNT = 4;
        static final int ELEMENT_ITEMS = 5;
        static final int ELEMENT_EXPRESSIONS = 6;

        static final int DATA_WIDTH = 5;
        static final int DATA_MODE = 0;
        static final int DATA_MEMORY = 1;
        static final int DATA_PLACE = 2;
        static final int DATA_BYTES = 3;
        static final int DATA_LENGTH = 4;

        static final int BODY_WIDTH = 9;
        static final int BODY_AT = 0;
        static final int BODY_END = 1;
        static final int BODY_CODE = 2;
        static final int BODY_CODE_END = 3;
        static final int BODY_LOCALS = 4;
        static final int BODY_LOCALS_END = 5;
        static final int BODY_LOCAL_COUNT = 6;
        static final int BODY_MOST = 7;
        static final int BODY_REGISTERS = 8;

        static final int NOT_COMPILED = 0;
        static final int COMPILED = 1;
        static final int NO_ROOM = 2;

        final int[] places = new int[13];
        final int[] rows = new int[13];
        final int[] flaws = new int[3];
        final int[] imported = new int[4];
        final int[] types = new int[ROW];
        final int[] imports = new int[2 * ROW];
        final int[] functions = new int[2 * ROW];
        final byte[] declared = new byte[2 * ROW];
        final int[] tables = new int[2 * ROW];
        final long[] tableLimits = new long[4 * ROW];
        final long[] memoryLimits = new long[2];
        final int[] globals = new int[2 * ROW * GLOBAL_WIDTH];
        final int[] exports = new int[ROW * EXPORT_WIDTH];
        final int[] elements = new int[ROW * ELEMENT_WIDTH];
        final int[] data = new int[ROW * DATA_WIDTH];
        final int[] bodies = new int[ROW * BODY_WIDTH];
        int start;
        int[] locals;
        int[] code;
        final int[][] registers = new int[ROW][];

        void clear() {
            Arrays.fill(places, -1);
            Arrays.fill(rows, 0);
            Arrays.fill(flaws, -1);
            Arrays.fill(imported, 0);
            Arrays.fill(declared, (byte) 0);
            start = -1;
        }

        int functionCount() {
            return imported[KIND_FUNCTION] + rows[OWN_FUNCTIONS];
        }

        int tableCount() {
            return imported[KIND_TABLE] + rows[OWN_TABLES];
        }

        int memoryCount() {
            return imported[KIND_MEMORY] + rows[OWN_MEMORIES];
        }

        int globalCount() {
            return imported[KIND_GLOBAL] + rows[OWN_GLOBALS];
        }

        int count(int kind) {
            switch (kind) {
                case KIND_FUNCTION: return functionCount();
                case KIND_TABLE: return tableCount();
                case KIND_MEMORY: return memoryCount();
                default: return globalCount();
            }
        }
    }

    /** Part I: reads the sections of a module from the bytes. What it finds of Part II on its way it notes as flaws. */
    private static final class Reader {
        private static final byte[] HEAD = {0, 97, 115, 109, 1, 0, 0, 0};
        private static final int[] ORDER = {0, 1, 2, 3, 4, 5, 6, 7, 8, 9, 11, 12, 10};
        private static final int WITHOUT_ELSE = 1;
        private static final int OTHER_BLOCK = 0;

        private final Bytes bytes;
        private final Types types;
        private final byte[] blocks = new byte[TAPE];
        private Module module;
        private int moduleEnd;
        private int lastOrder;
        private int section;
        private int tableSlot;
        private int functionSlot;
        private int memorySlot;
        private int globalSlot;
        private long least;
        private long greatest;
        private long dataSaid;
        private int codeRecords;
        private int localRuns;

        Reader(Bytes bytes, Types types) {
            this.bytes = bytes;
            this.types = types;
        }

        void open(Module target) {
            module = target;
            moduleEnd = bytes.end;
            lastOrder = 0;
            functionSlot = 0;
            tableSlot = 0;
            memorySlot = 0;
            globalSlot = 0;
            dataSaid = -1;
            codeRecords = 0;
            localRuns = 0;
            readHead();
        }

        boolean hasSection() {
            return bytes.fault == 0 && bytes.at < moduleEnd;
        }

        /** Reads a section's id and size, and makes it the part that is read. */
        int openSection() {
            section = bytes.at;
            int id = bytes.next();
            if (id >= ORDER.length || id > 0 && ORDER[id] <= lastOrder) {
                bytes.refuse(6, section);
                return 0;
            }
            int sizeAt = bytes.at;
            long size = bytes.u32();
            if (size > moduleEnd - bytes.at) {
                bytes.refuse(2, sizeAt);
            }
            if (bytes.fault != 0) {
                return 0;
            }
            bytes.end = bytes.at + (int) size;
            module.places[id] = section;
            lastOrder = Math.max(lastOrder, ORDER[id]);
            return id;
        }

        void closeSection() {
            if (bytes.at < bytes.end) {
                bytes.refuse(3, bytes.at);
            }
            bytes.end = moduleEnd;
        }

        private void readHead() {
            for (int i = 0; i < HEAD.length && bytes.fault == 0; i++) {
                int where = bytes.at;
                if (bytes.next() != HEAD[i]) {
                    bytes.refuse(5, where);
                }
            }
        }

        void close() {
            if (module.rows[Module.BODIES] != module.rows[Module.OWN_FUNCTIONS]) {
                bytes.refuse(13, bytes.end);
            }
            if (dataSaid >= 0 && dataSaid != module.rows[Module.DATA]) {
                bytes.refuse(14, bytes.end);
            }
            if (bytes.fault == 0) {
                module.code = new int[Checker.RECORD * codeRecords];
                module.locals = new int[2 * localRuns];
            }
        }

        void readContent(int id) {
            if (bytes.fault != 0) {
                return;
            }
            if (id == 0) {
                readCustom();
                return;
            }
            if (id == Module.START) {
                module.start = clamp(bytes.u32());
                return;
            }
            if (id == Module.DATA_COUNT) {
                dataSaid = bytes.u32();
                bytes.dataCounted = true;
                return;
            }
            int sectionEnd = bytes.end;
            long count = rowLength(id);
            for (long i = 0; i < count && bytes.fault == 0; i++) {
                int slot = (int) Math.min(i, ROW);
                switch (id) {
                    case Module.TYPES: readType(slot); break;
                    case Module.IMPORTS: readImport(slot); break;
                    case Module.OWN_FUNCTIONS: readFunction(); break;
                    case Module.OWN_TABLES: readTable(); break;
                    case Module.OWN_MEMORIES: readMemory(); break;
                    case Module.OWN_GLOBALS: readGlobal(); readExpression(false); break;
                    case Module.EXPORTS: readExport(slot); break;
                    case Module.ELEMENTS: readElement(slot); break;
                    case Module.BODIES: readBody(slot, sectionEnd); break;
                    default: readData(slot); break;
                }
            }
        }

        private void readCustom() {
            bytes.name();
            if (bytes.fault == 0) {
                bytes.at = bytes.end;
            }
        }

        private long rowLength(int id) {
            long count = bytes.u32();
            if (count > ROW) {
                flaw(Module.FLAW_LIMIT);
            }
            module.rows[id] = clamp(count);
            return count;
        }

        private static int clamp(long number) {
            return (int) Math.min(number, Integer.MAX_VALUE);
        }

        private void flaw(int which) {
            if (module.flaws[which] < 0) {
                module.flaws[which] = section;
            }
        }

        private void readType(int slot) {
            int where = bytes.at;
            if (bytes.next() != 96) {
                bytes.refuse(8, where);
            }
            boolean small = readSide(0);
            small &= readSide(1);
            if (!small) {
                flaw(Module.FLAW_LIMIT);
            } else if (slot < ROW && bytes.fault == 0) {
                module.types[slot] = types.settle();
            }
        }

        private boolean readSide(int side) {
            long count = bytes.u32();
            for (long i = 0; i < count && bytes.fault == 0; i++) {
                types.draft(side, (int) Math.min(i, SIDE), bytes.valueKind());
            }
            types.draftLength(side, (int) Math.min(count, SIDE));
            return count <= SIDE;
        }

        private void readImport(int slot) {
            bytes.name();
            bytes.name();
            int kind = bytes.choice(KIND_GLOBAL);
            if (bytes.fault != 0) {
                return;
            }
            if (slot < ROW) {
                module.imports[2 * slot] = kind;
                module.imports[2 * slot + 1] = module.imported[kind];
            }
            module.imported[kind]++;
            switch (kind) {
                case KIND_FUNCTION: readFunction(); break;
                case KIND_TABLE: readTable(); break;
                case KIND_MEMORY: readMemory(); break;
                default: readGlobal(); break;
            }
        }

        private void readFunction() {
            long type = bytes.u32();
            if (type >= module.rows[Module.TYPES]) {
                flaw(Module.FLAW_TYPE);
            } else if (type < ROW && functionSlot < module.functions.length) {
                module.functions[functionSlot] = module.types[(int) type];
            }
            functionSlot++;
        }

        private void readTable() {
            int kind = bytes.referenceKind();
            readLimits(LOW);
            if (tableSlot < module.tables.length) {
                module.tables[tableSlot] = kind;
                module.tableLimits[2 * tableSlot] = least;
                module.tableLimits[2 * tableSlot + 1] = greatest;
            }
            tableSlot++;
        }

        private void readMemory() {
            readLimits(PAGE);
            if (memorySlot == 0) {
                module.memoryLimits[0] = least;
                module.memoryLimits[1] = greatest;
            }
            memorySlot++;
        }

        /** Leaves the least and the greatest, which is -1 when there is none. */
        private void readLimits(long most) {
            int both = bytes.choice(1);
            least = bytes.u32();
            greatest = both == 1 ? bytes.u32() : -1;
            if (least > most || greatest > most || greatest >= 0 && least > greatest) {
                flaw(Module.FLAW_RANGE);
            }
        }

        private void readGlobal() {
            int kind = bytes.valueKind();
            int changes = bytes.choice(1);
            int at = globalSlot * Module.GLOBAL_WIDTH;
            if (at < module.globals.length) {
                module.globals[at + Module.GLOBAL_KIND] = kind;
                module.globals[at + Module.GLOBAL_CHANGES] = changes;
                module.globals[at + Module.GLOBAL_AT] = bytes.at;
            }
            globalSlot++;
        }

        private void readExport(int slot) {
            bytes.name();
            int name = bytes.row;
            int length = (int) bytes.rowLength;
            int kind = bytes.choice(KIND_GLOBAL);
            long index = bytes.u32();
            if (kind == KIND_FUNCTION) {
                declare(index);
            }
            if (slot < ROW) {
                int at = slot * Module.EXPORT_WIDTH;
                module.exports[at + Module.EXPORT_KIND] = kind;
                module.exports[at + Module.EXPORT_INDEX] = clamp(index);
                module.exports[at + Module.EXPORT_NAME] = name;
                module.exports[at + Module.EXPORT_LENGTH] = length;
            }
        }

        private void declare(long function) {
            if (function < module.declared.length) {
                module.declared[(int) function] = 1;
            }
        }

        private void readElement(int slot) {
            int where = bytes.at;
            long form = bytes.u32();
            if (form > 7) {
                bytes.refuse(7, where);
                return;
            }
            boolean active = (form & 1) == 0;
            int at = Math.min(slot, ROW - 1) * Module.ELEMENT_WIDTH;
            int[] record = module.elements;
            record[at + Module.ELEMENT_MODE] =
                active ? Module.ACTIVE : (form & 2) != 0 ? Module.DECLARED : Module.PASSIVE;
            record[at + Module.ELEMENT_TABLE] = active && (form & 2) != 0 ? clamp(bytes.u32()) : 0;
            record[at + Module.ELEMENT_PLACE] = bytes.at;
            if (active) {
                readExpression(false);
            }
            record[at + Module.ELEMENT_KIND] = FUNCTION;
            boolean expressions = (form & 4) != 0;
            if ((form & 3) != 0 && expressions) {
                record[at + Module.ELEMENT_KIND] = bytes.referenceKind();
            } else if ((form & 3) != 0) {
                bytes.choice(0);
            }
            long count = bytes.u32();
            record[at + Module.ELEMENT_COUNT] = clamp(count);
            record[at + Module.ELEMENT_ITEMS] = bytes.at;
            record[at + Module.ELEMENT_EXPRESSIONS] = expressions ? 1 : 0;
            for (long i = 0; i < count && bytes.fault == 0; i++) {
                if (expressions) {
                    readExpression(false);
                } else {
                    declare(bytes.u32());
                }
            }
        }

        private void readData(int slot) {
            int where = bytes.at;
            long form = bytes.u32();
            if (form > 2) {
                bytes.refuse(7, where);
                return;
            }
            int at = Math.min(slot, ROW - 1) * Module.DATA_WIDTH;
            module.data[at + Module.DATA_MODE] = form == 1 ? Module.PASSIVE : Module.ACTIVE;
            module.data[at + Module.DATA_MEMORY] = form == 2 ? clamp(bytes.u32()) : 0;
            module.data[at + Module.DATA_PLACE] = bytes.at;
            if (form != 1) {
                readExpression(false);
            }
            bytes.text();
            module.data[at + Module.DATA_BYTES] = bytes.row;
            module.data[at + Module.DATA_LENGTH] = clamp(bytes.rowLength);
        }

        private void readBody(int slot, int sectionEnd) {
            int sizeAt = bytes.at;
            long size = bytes.u32();
            if (size > sectionEnd - bytes.at) {
                bytes.refuse(2, sizeAt);
            }
            if (bytes.fault != 0) {
                return;
            }
            bytes.end = bytes.at + (int) size;
            if (slot < ROW) {
                module.bodies[slot * Module.BODY_WIDTH + Module.BODY_AT] = bytes.at;
                module.bodies[slot * Module.BODY_WIDTH + Module.BODY_END] = bytes.end;
            }
            readLocals();
            readExpression(true);
            if (bytes.at < bytes.end) {
                bytes.refuse(3, bytes.at);
            }
            bytes.end = sectionEnd;
        }

        private void readLocals() {
            int where = bytes.at;
            long runs = bytes.u32();
            long count = 0;
            for (long i = 0; i < runs && bytes.fault == 0; i++) {
                count += bytes.u32();
                bytes.valueKind();
                localRuns++;
            }
            if (count > LOW) {
                bytes.refuse(12, where);
            }
            if (count > LOCALS) {
                flaw(Module.FLAW_LIMIT);
            }
        }

        private void readExpression(boolean ofBody) {
            int depth = 0;
            for (int i = 0; i <= TAPE && bytes.fault == 0; i++) {
                bytes.instruction();
                switch (bytes.op) {
                    case 2: case 3: case 4:
                        blocks[depth] = (byte) (bytes.op == 4 ? WITHOUT_ELSE : OTHER_BLOCK);
                        depth = Math.min(depth + 1, TAPE - 1);
                        break;
                    case 5:
                        if (depth == 0 || blocks[depth - 1] != WITHOUT_ELSE) {
                            bytes.refuse(10, bytes.begin);
                        } else {
                            blocks[depth - 1] = OTHER_BLOCK;
                        }
                        break;
                    case 11:
                        if (depth == 0) {
                            codeRecords++;
                            return;
                        }
                        depth--;
                        break;
                    default: noteInstruction(ofBody); break;
                }
                codeRecords++;
            }
        }

        private void noteInstruction(boolean ofBody) {
            if (!ofBody) {
                if (bytes.op == 210 && section != module.places[Module.DATA]) {
                    declare(bytes.first);
                }
                return;
            }
            if (bytes.op == 14) {
                codeRecords += (int) bytes.rowLength + 1;
            }
            if (bytes.op == 14 && bytes.rowLength > LABELS || bytes.op == 28 && bytes.rowLength != 1) {
                flaw(Module.FLAW_LIMIT);
            }
        }
    }

    /**
     * Part II: checks a module that was read, and makes flattened code of its bodies. A record of that code is an
     * instruction and three numbers; of a branch these are where it goes, the row of types that it takes along, and
     * how many operands lie below them there.
     */
    private static final class Checker {
        static final int RECORD = 4;
        static final int[] WIDTHS = {2, 3, 2, 3, 0, 0, 1, 1, 0, 0, 1, 1, 2, 2, 2, 3, 2, 3, 0, 1, 0, 1, 2};
        private static final int[] MEMORY_KINDS = {
            I32, I64, F32, F64, I32, I32, I32, I32, I64, I64, I64, I64, I64, I64,
            I32, I64, F32, F64, I32, I32, I64, I64, I64};
        private static final int UNKNOWN = 0;
        private static final int LABEL = 8;
        private static final int OPENER = 0;
        private static final int TYPE = 1;
        private static final int HEIGHT = 2;
        private static final int DEAD = 3;
        private static final int REACHED = 4;
        private static final int LOOP_START = 5;
        private static final int CHAIN = 6;
        private static final int ELSE_JUMP = 7;

        private final Bytes bytes;
        private final Types types;
        private final byte[] row = new byte[OPERANDS];
        private final int[] labels = new int[LABELS * LABEL];
        private final byte[] localKinds = new byte[LOCALS + SIDE];
        private Module module;
        private int size;
        private int labelCount;
        private int innermost;
        private int localCount;
        private int most;
        private int taken;
        private int codeSize;
        private int localsSize;

        Checker(Bytes bytes, Types types) {
            this.bytes = bytes;
            this.types = types;
        }

        static int memoryKind(int op) {
            return MEMORY_KINDS[op - 40];
        }

        void outline(Module checked) {
            module = checked;
            codeSize = 0;
            localsSize = 0;
            if (bytes.fault != 0) {
                return;
            }
            refuseFlaw(40, module.flaws[Module.FLAW_LIMIT]);
            refuseFlaw(20, module.flaws[Module.FLAW_TYPE]);
            refuseFlaw(21, module.flaws[Module.FLAW_RANGE]);
            if (module.memoryCount() > 1) {
                int own = module.places[Module.OWN_MEMORIES];
                bytes.refuse(22, own >= 0 ? own : module.places[Module.IMPORTS]);
            }
            checkExports();
            checkStart();
            checkGlobals();
            checkElements();
            checkData();
        }

        private void refuseFlaw(int why, int where) {
            if (where >= 0) {
                bytes.refuse(why, where);
            }
        }

        private void checkExports() {
            for (int i = 0; i < module.rows[Module.EXPORTS] && bytes.fault == 0; i++) {
                int at = i * Module.EXPORT_WIDTH;
                int kind = module.exports[at + Module.EXPORT_KIND];
                if (module.exports[at + Module.EXPORT_INDEX] >= module.count(kind)) {
                    bytes.refuse(24, module.places[Module.EXPORTS]);
                }
                for (int other = 0; other < at; other += Module.EXPORT_WIDTH) {
                    if (sameName(other, at)) {
                        bytes.refuse(23, module.places[Module.EXPORTS]);
                    }
                }
            }
        }

        private boolean sameName(int one, int other) {
            int length = module.exports[one + Module.EXPORT_LENGTH];
            if (length != module.exports[other + Module.EXPORT_LENGTH]) {
                return false;
            }
            int oneName = module.exports[one + Module.EXPORT_NAME];
            int otherName = module.exports[other + Module.EXPORT_NAME];
            for (int i = 0; i < length; i++) {
                if (bytes.tape[oneName + i] != bytes.tape[otherName + i]) {
                    return false;
                }
            }
            return true;
        }

        private void checkStart() {
            if (bytes.fault != 0 || module.start < 0) {
                return;
            }
            // Type 0 is the one with neither parameters nor results.
            if (module.start >= module.functionCount() || module.functions[module.start] != 0) {
                bytes.refuse(25, module.places[Module.START]);
            }
        }

        private void checkGlobals() {
            for (int g = module.imported[KIND_GLOBAL]; g < module.globalCount() && bytes.fault == 0; g++) {
                int at = g * Module.GLOBAL_WIDTH;
                bytes.reread(module.globals[at + Module.GLOBAL_AT]);
                checkConstant(module.globals[at + Module.GLOBAL_KIND]);
            }
        }

        private void checkElements() {
            for (int e = 0; e < module.rows[Module.ELEMENTS] && bytes.fault == 0; e++) {
                int at = e * Module.ELEMENT_WIDTH;
                int kind = module.elements[at + Module.ELEMENT_KIND];
                boolean active = module.elements[at + Module.ELEMENT_MODE] == Module.ACTIVE;
                boolean expressions = module.elements[at + Module.ELEMENT_EXPRESSIONS] == 1;
                if (active && !tableIs(module.elements[at + Module.ELEMENT_TABLE], kind)
                        || !expressions && !functionsThere(at)) {
                    bytes.refuse(28, module.places[Module.ELEMENTS]);
                    return;
                }
                if (active) {
                    bytes.reread(module.elements[at + Module.ELEMENT_PLACE]);
                    checkConstant(I32);
                }
                if (expressions && bytes.fault == 0) {
                    bytes.reread(module.elements[at + Module.ELEMENT_ITEMS]);
                    for (int i = 0; i < module.elements[at + Module.ELEMENT_COUNT] && bytes.fault == 0; i++) {
                        checkConstant(kind);
                    }
                }
            }
        }

        private boolean tableIs(long number, int kind) {
            return number < module.tableCount() && module.tables[(int) number] == kind;
        }

        private boolean functionsThere(int at) {
            bytes.reread(module.elements[at + Module.ELEMENT_ITEMS]);
            for (int i = 0; i < module.elements[at + Module.ELEMENT_COUNT]; i++) {
                if (bytes.u32() >= module.functionCount()) {
                    return false;
                }
            }
            return true;
        }

        private void checkData() {
            for (int d = 0; d < module.rows[Module.DATA] && bytes.fault == 0; d++) {
                int at = d * Module.DATA_WIDTH;
                if (module.data[at + Module.DATA_MODE] != Module.ACTIVE) {
                    continue;
                }
                if (module.data[at + Module.DATA_MEMORY] >= module.memoryCount()) {
                    bytes.refuse(28, module.places[Module.DATA]);
                    return;
                }
                bytes.reread(module.data[at + Module.DATA_PLACE]);
                checkConstant(I32);
            }
        }

        private void checkConstant(int wanted) {
            int count = 0;
            int kind = UNKNOWN;
            int missing = -1;
            for (int i = 0; i <= TAPE && bytes.fault == 0; i++) {
                bytes.instruction();
                if (bytes.op == 11) {
                    if (missing >= 0) {
                        bytes.refuse(28, missing);
                    } else if (count != 1 || kind != wanted) {
                        bytes.refuse(27, bytes.begin);
                    }
                    return;
                }
                kind = constantKind();
                count++;
                if (kind == UNKNOWN) {
                    bytes.refuse(26, bytes.begin);
                }
                if (bytes.op == 210 && bytes.first >= module.functionCount() && missing < 0) {
                    missing = bytes.begin;
                }
            }
        }

        private int constantKind() {
            switch (bytes.op) {
                case 65: return I32;
                case 66: return I64;
                case 67: return F32;
                case 68: return F64;
                case 208: return (int) bytes.first;
                case 210: return FUNCTION;
                case 35: break;
                default: return UNKNOWN;
            }
            if (bytes.first >= module.imported[KIND_GLOBAL]) {
                return UNKNOWN;
            }
            int at = (int) bytes.first * Module.GLOBAL_WIDTH;
            return module.globals[at + Module.GLOBAL_CHANGES] == 0 ? module.globals[at + Module.GLOBAL_KIND] : UNKNOWN;
        }

        void body(int number) {
            int at = number * Module.BODY_WIDTH;
            int type = module.functions[module.imported[KIND_FUNCTION] + number];
            bytes.at = module.bodies[at + Module.BODY_AT];
            bytes.end = module.bodies[at + Module.BODY_END];
            module.bodies[at + Module.BODY_LOCALS] = localsSize;
            layOutLocals(Types.parameters(type));
            module.bodies[at + Module.BODY_LOCALS_END] = localsSize;
            module.bodies[at + Module.BODY_LOCAL_COUNT] = localCount;
            module.bodies[at + Module.BODY_CODE] = codeSize;
            size = 0;
            most = 0;
            labelCount = 0;
            openLabel(0, type, true);
            for (int i = 0; i <= TAPE && labelCount > 0 && bytes.fault == 0; i++) {
                bytes.instruction();
                checkInstruction(bytes.op);
                if (labelCount > 0) {
                    most = Math.max(most, size);
                }
            }
            module.bodies[at + Module.BODY_CODE_END] = codeSize;
            module.bodies[at + Module.BODY_MOST] = most;
            module.bodies[at + Module.BODY_REGISTERS] = Module.NOT_COMPILED;
        }

        private void layOutLocals(int parameters) {
            localCount = types.lengths[parameters];
            for (int i = 0; i < localCount; i++) {
                localKinds[i] = (byte) types.kind(parameters, i);
            }
            long runs = bytes.u32();
            for (long i = 0; i < runs; i++) {
                int count = (int) bytes.u32();
                int kind = bytes.valueKind();
                Arrays.fill(localKinds, localCount, localCount + count, (byte) kind);
                localCount += count;
                // Runs of nothing are left out: the making of a frame shall not go through them.
                if (count > 0) {
                    module.locals[localsSize] = count;
                    module.locals[localsSize + 1] = kind;
                    localsSize += 2;
                }
            }
        }

        private void wrong(int why) {
            bytes.refuse(why, bytes.begin);
        }

        private void checkInstruction(int op) {
            if (!isThere(op)) {
                wrong(30);
            } else if (op >= 69 && op <= 207) {
                checkOperator(op);
            } else if (op >= 40 && op <= 64) {
                checkMemory(op);
            } else if (op >= 220) {
                checkStretch(op);
            } else if (op >= 65) {
                checkConstantOrReference(op);
            } else if (op >= 26) {
                checkVariable(op);
            } else if (op >= 12) {
                checkBranch(op);
            } else if (op == 11) {
                checkEnd();
            } else if (op == 5) {
                checkElse();
            } else if (op >= 2) {
                checkOpening(op);
            } else {
                checkPlain(op);
            }
        }

        private boolean isThere(int op) {
            long first = bytes.first;
            switch (op) {
                case 2: case 3: case 4: return first < module.rows[Module.TYPES];
                case 12: case 13: return first < labelCount;
                case 14: return first < labelCount && labelsThere();
                case 16: return first < module.functionCount();
                case 17: return first < module.rows[Module.TYPES] && tableIs(bytes.second, FUNCTION);
                case 32: case 33: case 34: return first < localCount;
                case 35: return first < module.globalCount();
                case 36: return first < module.globalCount()
                    && module.globals[(int) first * Module.GLOBAL_WIDTH + Module.GLOBAL_CHANGES] == 1;
                case 37: case 38: case 227: case 228: case 229: return first < module.tableCount();
                case 63: case 64: case 222: case 223: return module.memoryCount() > 0;
                case 210: return first < module.functionCount() && module.declared[(int) first] == 1;
                case 220: return first < module.rows[Module.DATA] && module.memoryCount() > 0;
                case 221: return first < module.rows[Module.DATA];
                case 224: return first < module.rows[Module.ELEMENTS] && tableIs(bytes.second, elementKind((int) first));
                case 225: return first < module.rows[Module.ELEMENTS];
                case 226: return first < module.tableCount() && tableIs(bytes.second, module.tables[(int) first]);
                default: return op < 40 || op > 62 || module.memoryCount() > 0 && first <= WIDTHS[op - 40];
            }
        }

        private int elementKind(int element) {
            return module.elements[element * Module.ELEMENT_WIDTH + Module.ELEMENT_KIND];
        }

        private boolean labelsThere() {
            int behind = bytes.at;
            bytes.at = bytes.row;
            boolean there = true;
            for (int i = 0; i < bytes.rowLength; i++) {
                there &= bytes.u32() < labelCount;
            }
            bytes.at = behind;
            return there;
        }

        private void take(int kind) {
            taken = UNKNOWN;
            if (size == labels[innermost + HEIGHT]) {
                if (labels[innermost + DEAD] == 0) {
                    bytes.refuse(29, bytes.begin);
                }
                return;
            }
            size--;
            taken = row[size];
            if (kind != UNKNOWN && taken != UNKNOWN && taken != kind) {
                bytes.refuse(29, bytes.begin);
            }
        }

        private void put(int kind) {
            if (size == OPERANDS) {
                bytes.refuse(40, bytes.begin);
                return;
            }
            row[size] = (byte) kind;
            size++;
        }

        private void takeRow(int wanted) {
            for (int i = types.lengths[wanted] - 1; i >= 0; i--) {
                take(types.kind(wanted, i));
            }
        }

        private void putRow(int given) {
            for (int i = 0; i < types.lengths[given]; i++) {
                put(types.kind(given, i));
            }
        }

        private void die() {
            size = labels[innermost + HEIGHT];
            labels[innermost + DEAD] = 1;
        }

        private boolean live() {
            return labels[innermost + REACHED] == 1 && labels[innermost + DEAD] == 0;
        }

        private void emit(int op, int a, int b, int c) {
            if (!live() || codeSize + RECORD > module.code.length) {
                return;
            }
            module.code[codeSize] = op;
            module.code[codeSize + 1] = a;
            module.code[codeSize + 2] = b;
            module.code[codeSize + 3] = c;
            codeSize += RECORD;
        }

        private void checkOperator(int op) {
            int signature = Numbers.signature(op);
            for (int i = 0; i < Numbers.takes(signature); i++) {
                take(Numbers.taken(signature));
            }
            put(Numbers.given(signature));
            emit(op, 0, 0, 0);
        }

        private void checkMemory(int op) {
            if (op == 63) {
                put(I32);
            } else if (op == 64) {
                take(I32);
                put(I32);
            } else if (op < 54) {
                take(I32);
                put(memoryKind(op));
            } else {
                take(memoryKind(op));
                take(I32);
            }
            emit(op, (int) bytes.second, 0, 0);
        }

        private void checkStretch(int op) {
            int table = module.tables[(int) Math.min(bytes.first, 2 * ROW - 1)];
            switch (op) {
                case 221: case 225: break;
                case 227: take(I32); take(table); put(I32); break;
                case 228: put(I32); break;
                case 229: take(I32); take(table); take(I32); break;
                default: take(I32); take(I32); take(I32); break;
            }
            emit(op, (int) bytes.first, (int) bytes.second, 0);
        }

        /** A constant's record has its bits in two halves, and its type. */
        private void checkConstantOrReference(int op) {
            if (op == 209) {
                take(UNKNOWN);
                if (taken != UNKNOWN && !Types.isReference(taken)) {
                    wrong(29);
                }
                put(I32);
                emit(op, 0, 0, 0);
                return;
            }
            int kind = op == 208 ? (int) bytes.first : op == 210 ? FUNCTION : 192 - op;
            long bits = op == 208 ? -1 : bytes.first;
            put(kind);
            emit(op, (int) bits, (int) (bits >> 32), kind);
        }

        private void checkVariable(int op) {
            int index = (int) bytes.first;
            switch (op) {
                case 26: take(UNKNOWN); break;
                case 27: checkChoice(); break;
                case 28: take(I32); take(index); take(index); put(index); break;
                case 32: put(localKinds[index]); break;
                case 33: take(localKinds[index]); break;
                case 34: take(localKinds[index]); put(localKinds[index]); break;
                case 35: put(globalKind(index)); break;
                case 36: take(globalKind(index)); break;
                case 37: take(I32); put(module.tables[index]); break;
                default: take(module.tables[index]); take(I32); break;
            }
            emit(op == 28 ? 27 : op, index, 0, 0);
        }

        private int globalKind(int index) {
            return module.globals[index * Module.GLOBAL_WIDTH + Module.GLOBAL_KIND];
        }

        private void checkChoice() {
            take(I32);
            take(UNKNOWN);
            int second = taken;
            take(UNKNOWN);
            int first = taken;
            boolean numbers = (first == UNKNOWN || Types.isNumber(first)) && (second == UNKNOWN || Types.isNumber(second));
            if (!numbers || first != UNKNOWN && second != UNKNOWN && first != second) {
                wrong(29);
            }
            put(first != UNKNOWN ? first : second);
        }

        private void checkPlain(int op) {
            emit(op, 0, 0, 0);
            if (op == 0) {
                die();
            }
        }

        private void checkOpening(int op) {
            int type = bytes.first < 0 ? Types.ofBlock((int) -bytes.first) : module.types[(int) bytes.first];
            if (op == 4) {
                take(I32);
            }
            takeRow(Types.parameters(type));
            if (labelCount == LABELS) {
                wrong(40);
            }
            if (bytes.fault != 0) {
                return;
            }
            boolean reached = live();
            int jump = codeSize;
            if (op == 4) {
                emit(op, 0, Types.parameters(type), size);
            }
            openLabel(op, type, reached);
            labels[innermost + ELSE_JUMP] = op == 4 && reached ? jump : -1;
            putRow(Types.parameters(type));
        }

        private void openLabel(int opener, int type, boolean reached) {
            innermost = labelCount * LABEL;
            labelCount++;
            labels[innermost + OPENER] = opener;
            labels[innermost + TYPE] = type;
            labels[innermost + HEIGHT] = size;
            labels[innermost + DEAD] = 0;
            labels[innermost + REACHED] = reached ? 1 : 0;
            labels[innermost + LOOP_START] = codeSize;
            labels[innermost + CHAIN] = -1;
            labels[innermost + ELSE_JUMP] = -1;
        }

        private void takeResults() {
            takeRow(Types.results(labels[innermost + TYPE]));
            if (size != labels[innermost + HEIGHT]) {
                wrong(29);
            }
        }

        private void checkElse() {
            takeResults();
            emitBranch(5, 0);
            land(labels[innermost + ELSE_JUMP]);
            labels[innermost + ELSE_JUMP] = -1;
            labels[innermost + OPENER] = 5;
            labels[innermost + DEAD] = 0;
            putRow(Types.parameters(labels[innermost + TYPE]));
        }

        private void checkEnd() {
            int type = labels[innermost + TYPE];
            takeResults();
            if (labels[innermost + OPENER] == 4 && !types.sameRow(Types.parameters(type), Types.results(type))) {
                wrong(29);
            }
            land(labels[innermost + ELSE_JUMP]);
            int jump = labels[innermost + CHAIN];
            for (int i = 0; i <= module.code.length && jump >= 0; i++) {
                int next = module.code[jump + 1];
                land(jump);
                jump = next;
            }
            labelCount--;
            if (labelCount == 0) {
                // Branches to the function's label come here, though what lies ahead of it may be dead.
                labels[innermost + DEAD] = 0;
                emit(11, types.lengths[Types.results(type)], 0, 0);
                return;
            }
            innermost -= LABEL;
            putRow(Types.results(type));
        }

        private void land(int jump) {
            if (jump >= 0) {
                module.code[jump + 1] = codeSize;
            }
        }

        private int labelAt(long depth) {
            return (labelCount - 1 - (int) depth) * LABEL;
        }

        private int wantedRow(int label) {
            int type = labels[label + TYPE];
            return labels[label + OPENER] == 3 ? Types.parameters(type) : Types.results(type);
        }

        /** Until its label ends, the record of a branch forward has in the target's place the one chained before it. */
        private void emitBranch(int op, long depth) {
            if (!live()) {
                return;
            }
            int label = labelAt(depth);
            int target = labels[label + LOOP_START];
            if (labels[label + OPENER] != 3) {
                target = labels[label + CHAIN];
                labels[label + CHAIN] = codeSize;
            }
            emit(op, target, wantedRow(label), labels[label + HEIGHT]);
        }

        private void checkBranch(int op) {
            switch (op) {
                case 12:
                    takeRow(wantedRow(labelAt(bytes.first)));
                    emitBranch(op, bytes.first);
                    die();
                    break;
                case 13:
                    take(I32);
                    takeRow(wantedRow(labelAt(bytes.first)));
                    putRow(wantedRow(labelAt(bytes.first)));
                    emitBranch(op, bytes.first);
                    break;
                case 14:
                    checkBranches();
                    die();
                    break;
                case 15:
                    takeRow(Types.results(labels[TYPE]));
                    emit(op, types.lengths[Types.results(labels[TYPE])], 0, 0);
                    die();
                    break;
                case 16:
                    checkCall(module.functions[(int) bytes.first]);
                    emit(op, (int) bytes.first, 0, 0);
                    break;
                default:
                    take(I32);
                    checkCall(module.types[(int) bytes.first]);
                    emit(op, module.types[(int) bytes.first], (int) bytes.second, 0);
                    break;
            }
        }

        private void checkCall(int type) {
            takeRow(Types.parameters(type));
            putRow(Types.results(type));
        }

        private void checkBranches() {
            long last = bytes.first;
            int arity = types.lengths[wantedRow(labelAt(last))];
            int behind = bytes.at;
            take(I32);
            emit(14, (int) bytes.rowLength, 0, 0);
            bytes.at = bytes.row;
            for (int i = 0; i < bytes.rowLength && bytes.fault == 0; i++) {
                long depth = bytes.u32();
                int wanted = wantedRow(labelAt(depth));
                if (types.lengths[wanted] != arity) {
                    wrong(29);
                }
                int there = Math.min(arity, size - labels[innermost + HEIGHT]);
                takeRow(wanted);
                putBack(arity, there);
                emitBranch(12, depth);
            }
            bytes.at = behind;
            takeRow(wantedRow(labelAt(last)));
            emitBranch(12, last);
        }

        /** Puts again a row that was just taken, as it was; what was not there comes lowest, and is not known. */
        private void putBack(int length, int there) {
            if (size + length > OPERANDS) {
                wrong(40);
            }
            if (bytes.fault != 0) {
                return;
            }
            int missing = length - there;
            for (int i = there - 1; i >= 0; i--) {
                row[size + missing + i] = row[size + i];
            }
            Arrays.fill(row, size, size + missing, (byte) UNKNOWN);
            size += length;
        }
    }

    /** A module that was linked: which things of the store its functions, tables, memory and globals are. */
    private static final class Instance {
        final Module module;
        final int[] functions;
        final int[] tables;
        final int[] globals;
        final int[] elementAt;
        final int[] elementSize;
        final int[] dataSize;
        int memory;

        Instance(Module module) {
            this.module = module;
            functions = new int[module.functionCount()];
            tables = new int[module.tableCount()];
            globals = new int[module.globalCount()];
            elementAt = new int[module.rows[Module.ELEMENTS]];
            elementSize = new int[module.rows[Module.ELEMENTS]];
            dataSize = new int[module.rows[Module.DATA]];
            memory = -1;
        }

        int numberOf(int kind, int index) {
            switch (kind) {
                case KIND_FUNCTION: return functions[index];
                case KIND_TABLE: return tables[index];
                case KIND_MEMORY: return memory;
                default: return globals[index];
            }
        }

        void bind(int kind, int index, int number) {
            switch (kind) {
                case KIND_FUNCTION: functions[index] = number; break;
                case KIND_TABLE: tables[index] = number; break;
                case KIND_MEMORY: memory = number; break;
                default: globals[index] = number; break;
            }
        }
    }

    /** Part IV: what all instances have, the offers, and the making of instances. */
    private static final class Store {
        static final int FUNCTION_WIDTH = 5;
        static final int OWNER = 0;
        static final int BODY = 1;
        static final int TYPE = 2;
        static final int FRAMES_MADE = 3;
        static final int CHANGED = 4;
        private static final int HOST = -1;
        private static final int TABLE_WIDTH = 3;
        private static final int MEMORY_WIDTH = 2;
        private static final int SIZE = 0;
        private static final int GREATEST = 1;
        private static final int TABLE_KIND = 2;

        private final Bytes bytes;
        private final Types types;
        final Instance[] instances = new Instance[INSTANCES];
        int instanceCount;
        final int[] counts = new int[4];
        final int[] functions = new int[FUNCTIONS * FUNCTION_WIDTH];
        final int[][] entries = new int[TABLES][];
        private final long[] tableInfo = new long[TABLES * TABLE_WIDTH];
        int entriesUsed;
        private final byte[][] pages = new byte[PAGES][];
        private final int[] pageNumbers = new int[MEMORIES * PAGES];
        private final long[] memoryInfo = new long[MEMORIES * MEMORY_WIDTH];
        int pagesUsed;
        final long[] globals = new long[GLOBALS];
        private final int[] globalInfo = new int[2 * GLOBALS];
        private final int[] references = new int[REFERENCES];
        private int referencesUsed;
        private final int[] offers = new int[2 * OFFERS];
        int offerCount;

        Store(Bytes bytes, Types types) {
            this.bytes = bytes;
            this.types = types;
        }

        boolean exports(int instance, int k) {
            return instance >= 0 && instance < instanceCount
                && k >= 0 && k < instances[instance].module.rows[Module.EXPORTS];
        }

        int exportKind(int instance, int k) {
            return instances[instance].module.exports[k * Module.EXPORT_WIDTH + Module.EXPORT_KIND];
        }

        int exportNumber(int instance, int k) {
            int index = instances[instance].module.exports[k * Module.EXPORT_WIDTH + Module.EXPORT_INDEX];
            return instances[instance].numberOf(exportKind(instance, k), index);
        }

        int typeOf(int function) {
            return functions[function * FUNCTION_WIDTH + TYPE];
        }

        boolean isHosts(int function) {
            return functions[function * FUNCTION_WIDTH + OWNER] == HOST;
        }

        int hostNumber(int function) {
            return functions[function * FUNCTION_WIDTH + BODY];
        }

        int tableSize(int table) {
            return (int) tableInfo[table * TABLE_WIDTH + SIZE];
        }

        int tableKind(int table) {
            return (int) tableInfo[table * TABLE_WIDTH + TABLE_KIND];
        }

        int memoryPages(int memory) {
            return (int) memoryInfo[memory * MEMORY_WIDTH + SIZE];
        }

        int globalType(int global) {
            return globalInfo[2 * global];
        }

        int sizeOf(int kind, int number) {
            if (kind == KIND_TABLE) {
                return tableSize(number);
            }
            return kind == KIND_MEMORY ? memoryPages(number) : -1;
        }

        int addOffer(int kind, int number) {
            if (offerCount == OFFERS) {
                return -1;
            }
            offers[2 * offerCount] = kind;
            offers[2 * offerCount + 1] = number;
            offerCount++;
            return offerCount;
        }

        /** 0 when an instance can be made of the offers, or what make() answers otherwise. */
        int refusal(Module module) {
            if (offerCount != module.rows[Module.IMPORTS]) {
                return -2;
            }
            for (int i = 0; i < offerCount; i++) {
                if (!fits(module, i)) {
                    return -3 - module.imports[2 * i];
                }
            }
            return hasRoom(module) ? 0 : -9;
        }

        private boolean fits(Module module, int i) {
            int kind = module.imports[2 * i];
            int index = module.imports[2 * i + 1];
            int number = offers[2 * i + 1];
            if (offers[2 * i] == KIND_HOST) {
                return kind == KIND_FUNCTION;
            }
            if (offers[2 * i] != kind) {
                return false;
            }
            switch (kind) {
                case KIND_FUNCTION:
                    return typeOf(number) == module.functions[index];
                case KIND_TABLE:
                    return tableKind(number) == module.tables[index]
                        && ranges(tableInfo, number * TABLE_WIDTH, module.tableLimits, 2 * index);
                case KIND_MEMORY:
                    return ranges(memoryInfo, number * MEMORY_WIDTH, module.memoryLimits, 2 * index);
                default:
                    int at = index * Module.GLOBAL_WIDTH;
                    return globalInfo[2 * number] == module.globals[at + Module.GLOBAL_KIND]
                        && globalInfo[2 * number + 1] == module.globals[at + Module.GLOBAL_CHANGES];
            }
        }

        private static boolean ranges(long[] info, int at, long[] limits, int wanted) {
            long greatest = info[at + GREATEST];
            return info[at + SIZE] >= limits[wanted]
                && (limits[wanted + 1] < 0 || greatest >= 0 && greatest <= limits[wanted + 1]);
        }

        private boolean hasRoom(Module module) {
            int hosts = 0;
            for (int i = 0; i < offerCount; i++) {
                hosts += offers[2 * i] == KIND_HOST ? 1 : 0;
            }
            long tableEntries = 0;
            for (int t = module.imported[KIND_TABLE]; t < module.tableCount(); t++) {
                tableEntries += module.tableLimits[2 * t];
            }
            long elementReferences = 0;
            for (int e = 0; e < module.rows[Module.ELEMENTS]; e++) {
                elementReferences += module.elements[e * Module.ELEMENT_WIDTH + Module.ELEMENT_COUNT];
            }
            long newPages = module.rows[Module.OWN_MEMORIES] > 0 ? module.memoryLimits[0] : 0;
            return instanceCount < INSTANCES
                && counts[KIND_FUNCTION] + hosts + module.rows[Module.OWN_FUNCTIONS] <= FUNCTIONS
                && counts[KIND_TABLE] + module.rows[Module.OWN_TABLES] <= TABLES
                && counts[KIND_MEMORY] + module.rows[Module.OWN_MEMORIES] <= MEMORIES
                && counts[KIND_GLOBAL] + module.rows[Module.OWN_GLOBALS] <= GLOBALS
                && entriesUsed + tableEntries <= ENTRIES
                && pagesUsed + newPages <= PAGES
                && referencesUsed + elementReferences <= REFERENCES;
        }

        /** Makes the instance for which refusal() was 0; nothing is copied to its tables and memory yet. */
        Instance link(Module module) {
            Instance made = new Instance(module);
            instances[instanceCount] = made;
            for (int i = 0; i < offerCount; i++) {
                linkImport(made, i);
            }
            for (int b = 0; b < module.rows[Module.OWN_FUNCTIONS]; b++) {
                int index = module.imported[KIND_FUNCTION] + b;
                made.functions[index] = addFunction(instanceCount, b, module.functions[index]);
            }
            for (int t = module.imported[KIND_TABLE]; t < module.tableCount(); t++) {
                made.tables[t] = addTable(module, t);
            }
            if (module.rows[Module.OWN_MEMORIES] > 0) {
                made.memory = addMemory(module);
            }
            for (int g = module.imported[KIND_GLOBAL]; g < module.globalCount(); g++) {
                made.globals[g] = addGlobal(made, g * Module.GLOBAL_WIDTH);
            }
            for (int e = 0; e < module.rows[Module.ELEMENTS]; e++) {
                addElement(made, e);
            }
            for (int d = 0; d < module.rows[Module.DATA]; d++) {
                made.dataSize[d] = module.data[d * Module.DATA_WIDTH + Module.DATA_LENGTH];
            }
            instanceCount++;
            return made;
        }

        private void linkImport(Instance made, int i) {
            int kind = made.module.imports[2 * i];
            int index = made.module.imports[2 * i + 1];
            int number = offers[2 * i + 1];
            if (offers[2 * i] == KIND_HOST) {
                number = addFunction(HOST, number, made.module.functions[index]);
            }
            made.bind(kind, index, number);
        }

        private int addFunction(int owner, int body, int type) {
            int number = counts[KIND_FUNCTION];
            counts[KIND_FUNCTION]++;
            functions[number * FUNCTION_WIDTH + OWNER] = owner;
            functions[number * FUNCTION_WIDTH + BODY] = body;
            functions[number * FUNCTION_WIDTH + TYPE] = type;
            return number;
        }

        private int addTable(Module module, int t) {
            int number = counts[KIND_TABLE];
            counts[KIND_TABLE]++;
            entries[number] = new int[ENTRIES];
            tableInfo[number * TABLE_WIDTH + GREATEST] = module.tableLimits[2 * t + 1];
            tableInfo[number * TABLE_WIDTH + TABLE_KIND] = module.tables[t];
            growTable(number, module.tableLimits[2 * t], -1);
            return number;
        }

        private int addMemory(Module module) {
            int number = counts[KIND_MEMORY];
            counts[KIND_MEMORY]++;
            memoryInfo[number * MEMORY_WIDTH + GREATEST] = module.memoryLimits[1];
            growMemory(number, module.memoryLimits[0]);
            return number;
        }

        private int addGlobal(Instance made, int at) {
            int number = counts[KIND_GLOBAL];
            counts[KIND_GLOBAL]++;
            bytes.reread(made.module.globals[at + Module.GLOBAL_AT]);
            globals[number] = evaluate(made);
            globalInfo[2 * number] = made.module.globals[at + Module.GLOBAL_KIND];
            globalInfo[2 * number + 1] = made.module.globals[at + Module.GLOBAL_CHANGES];
            return number;
        }

        private void addElement(Instance made, int e) {
            int at = e * Module.ELEMENT_WIDTH;
            int count = made.module.elements[at + Module.ELEMENT_COUNT];
            boolean expressions = made.module.elements[at + Module.ELEMENT_EXPRESSIONS] == 1;
            bytes.reread(made.module.elements[at + Module.ELEMENT_ITEMS]);
            made.elementAt[e] = referencesUsed;
            made.elementSize[e] = count;
            for (int i = 0; i < count; i++) {
                references[referencesUsed] =
                    expressions ? (int) evaluate(made) : made.functions[(int) bytes.u32()];
                referencesUsed++;
            }
        }

        /** The value of the constant expression that comes next in the bytes. */
        private long evaluate(Instance made) {
            long result = 0;
            for (int i = 0; i <= TAPE && bytes.fault == 0; i++) {
                bytes.instruction();
                switch (bytes.op) {
                    case 11: return result;
                    case 35: result = globals[made.globals[(int) bytes.first]]; break;
                    case 208: result = -1; break;
                    case 210: result = made.functions[(int) bytes.first]; break;
                    default: result = bytes.first; break;
                }
            }
            return result;
        }

        /** Copies the active elements and data of a new instance: 0, or the first trap. */
        int fill(Instance made) {
            int[] elements = made.module.elements;
            for (int e = 0; e < made.elementSize.length; e++) {
                int at = e * Module.ELEMENT_WIDTH;
                if (elements[at + Module.ELEMENT_MODE] == Module.ACTIVE) {
                    bytes.reread(elements[at + Module.ELEMENT_PLACE]);
                    long to = evaluate(made) & LOW;
                    int trap = stretch(made, 224, e, elements[at + Module.ELEMENT_TABLE], to, 0, made.elementSize[e]);
                    if (trap != 0) {
                        return trap;
                    }
                }
                if (elements[at + Module.ELEMENT_MODE] != Module.PASSIVE) {
                    made.elementSize[e] = 0;
                }
            }
            int[] data = made.module.data;
            for (int d = 0; d < made.dataSize.length; d++) {
                int at = d * Module.DATA_WIDTH;
                if (data[at + Module.DATA_MODE] == Module.ACTIVE) {
                    bytes.reread(data[at + Module.DATA_PLACE]);
                    int trap = stretch(made, 220, d, 0, evaluate(made) & LOW, 0, made.dataSize[d]);
                    if (trap != 0) {
                        return trap;
                    }
                    made.dataSize[d] = 0;
                }
            }
            return 0;
        }

        boolean within(int memory, long at, long length) {
            return at + length <= (long) memoryPages(memory) * PAGE;
        }

        private byte[] page(int memory, int at) {
            return pages[pageNumbers[memory * PAGES + at / PAGE]];
        }

        long load(int memory, int at, int length) {
            long number = 0;
            for (int i = length - 1; i >= 0; i--) {
                number = number << 8 | page(memory, at + i)[(at + i) % PAGE] & 255;
            }
            return number;
        }

        void save(int memory, int at, int length, long number) {
            for (int i = 0; i < length; i++) {
                page(memory, at + i)[(at + i) % PAGE] = (byte) (number >> (8 * i));
            }
        }

        /** What an instruction 40 .. 53 loads. */
        long fetch(int op, int memory, int at) {
            int length = 1 << Checker.WIDTHS[op - 40];
            long number = load(memory, at, length);
            boolean withSign = op >= 44 && op % 2 == 0;
            int above = withSign ? 64 - 8 * length : 0;
            return number << above >> above;
        }

        long growMemory(int memory, long more) {
            int at = memory * MEMORY_WIDTH;
            long before = memoryInfo[at + SIZE];
            long most = memoryInfo[at + GREATEST] < 0 ? PAGE : memoryInfo[at + GREATEST];
            if (before + more > most || more > PAGES - pagesUsed) {
                return -1;
            }
            for (int i = 0; i < more; i++) {
                pages[pagesUsed] = new byte[PAGE];
                pageNumbers[memory * PAGES + (int) before + i] = pagesUsed;
                pagesUsed++;
            }
            memoryInfo[at + SIZE] = before + more;
            return before;
        }

        long growTable(int table, long more, int reference) {
            int at = table * TABLE_WIDTH;
            long before = tableInfo[at + SIZE];
            long most = tableInfo[at + GREATEST] < 0 ? LOW : tableInfo[at + GREATEST];
            if (before + more > most || more > ENTRIES - entriesUsed) {
                return -1;
            }
            Arrays.fill(entries[table], (int) before, (int) (before + more), reference);
            entriesUsed += (int) more;
            tableInfo[at + SIZE] = before + more;
            return before;
        }

        /** The function at an index of a table, if it has the type; otherwise the trap, below zero. */
        int functionAt(int table, long index, int type) {
            if (index >= tableSize(table)) {
                return -7;
            }
            int function = entries[table][(int) index];
            if (function < 0) {
                return -8;
            }
            return typeOf(function) == type ? function : -9;
        }

        /** Does an instruction 220 .. 226 or 229 with its two numbers: 0, or the trap. */
        int stretch(Instance instance, int op, int a, int b, long to, long from, long length) {
            switch (op) {
                case 221: instance.dataSize[a] = 0; return 0;
                case 225: instance.elementSize[a] = 0; return 0;
                case 220: case 222: case 223: return memoryStretch(instance, op, a, to, from, length);
                default: return tableStretch(instance, op, a, b, to, from, length);
            }
        }

        private int memoryStretch(Instance instance, int op, int a, long to, long from, long length) {
            int memory = instance.memory;
            if (!within(memory, to, length)
                    || op == 220 && from + length > instance.dataSize[a]
                    || op == 222 && !within(memory, from, length)) {
                return 5;
            }
            int data = op == 220 ? instance.module.data[a * Module.DATA_WIDTH + Module.DATA_BYTES] + (int) from : 0;
            boolean upwards = op != 222 || to <= from;
            int left = (int) length;
            for (int i = 0; i < 4 * PAGES && left > 0; i++) {
                int done = (int) length - left;
                int size = upwards
                    ? pieceBehind(left, (int) to + done, op == 222 ? (int) from + done : 0)
                    : pieceAhead(left, (int) to + left, (int) from + left);
                int offset = upwards ? done : left - size;
                byte[] page = page(memory, (int) to + offset);
                int at = ((int) to + offset) % PAGE;
                if (op == 220) {
                    System.arraycopy(bytes.tape, data + offset, page, at, size);
                } else if (op == 222) {
                    int source = (int) from + offset;
                    System.arraycopy(page(memory, source), source % PAGE, page, at, size);
                } else {
                    Arrays.fill(page, at, at + size, (byte) from);
                }
                left -= size;
            }
            return 0;
        }

        /** How much of a stretch lies behind two addresses, in one page each. */
        private static int pieceBehind(int left, int one, int other) {
            return Math.min(left, PAGE - Math.max(one % PAGE, other % PAGE));
        }

        /** How much of a stretch lies ahead of two ends, in one page each. */
        private static int pieceAhead(int left, int oneEnd, int otherEnd) {
            return Math.min(left, Math.min((oneEnd - 1) % PAGE, (otherEnd - 1) % PAGE) + 1);
        }

        private int tableStretch(Instance instance, int op, int a, int b, long to, long from, long length) {
            int table = instance.tables[op == 224 ? b : a];
            if (to + length > tableSize(table)) {
                return 6;
            }
            int[] target = entries[table];
            if (op == 229) {
                Arrays.fill(target, (int) to, (int) (to + length), (int) from);
                return 0;
            }
            int[] source = references;
            int sourceAt = 0;
            int sourceSize = 0;
            if (op == 224) {
                sourceAt = instance.elementAt[a];
                sourceSize = instance.elementSize[a];
            } else {
                source = entries[instance.tables[b]];
                sourceSize = tableSize(instance.tables[b]);
            }
            if (from + length > sourceSize) {
                return 6;
            }
            System.arraycopy(source, sourceAt + (int) from, target, (int) to, (int) length);
            return 0;
        }
    }

    /**
     * Part V: frames, their values with the types they have, and what is told of the latest call. The instructions of
     * a frame are done by one of two machines, over a stack or over registers; both keep a frame's locals at its base
     * and its operands behind them.
     */
    private static final class Machine {
        static final int FRAME = 5;
        static final int FRAME_FUNCTION = 0;
        static final int FRAME_AT = 1;
        static final int FRAME_BASE = 2;
        static final int FRAME_TOP = 3;
        static final int FRAME_REGISTERS = 4;

        final Store store;
        final Types types;
        final long[] values = new long[VALUES];
        final byte[] kinds = new byte[VALUES];
        final int[] frames = new int[FRAMES * FRAME];
        final long[] told = new long[SIDE];
        private final Stack stack;
        private final Registers registers;
        int toldCount;
        int depth;
        int state;
        int trap;
        int steps;
        int asked;
        int threshold;
        int changedOver;
        int unsound;
        // Steps that were counted already of the register instruction that comes next.
        int paid;
        // Another frame than the one that a machine works on is the innermost now.
        boolean moved;
        private int used;

        Machine(Store store, Types types) {
            this.store = store;
            this.types = types;
            stack = new Stack(store, types);
            registers = new Registers(types);
            asked = -1;
        }

        boolean busy() {
            return state == RUNNING || state == ASKED;
        }

        void begin() {
            stop(RUNNING);
            steps = 0;
        }

        void stop(int newState) {
            state = newState;
            depth = 0;
            used = 0;
            paid = 0;
            toldCount = 0;
            asked = -1;
        }

        void fail(int number) {
            stop(TRAPPED);
            trap = number;
        }

        int innermost() {
            return (depth - 1) * FRAME;
        }

        /** Puts values from outside, of the types of a row, at a place. */
        void take(long[] given, int row, int at) {
            for (int i = 0; i < types.lengths[row]; i++) {
                values[at + i] = given[i];
                kinds[at + i] = (byte) types.kind(row, i);
            }
        }

        private void tell(int row, int from) {
            toldCount = types.lengths[row];
            for (int i = 0; i < toldCount; i++) {
                told[i] = Types.told(values[from + i], types.kind(row, i));
            }
        }

        /** Whether the values at a place have the types of a row. */
        boolean match(int row, int from) {
            for (int i = 0; i < types.lengths[row]; i++) {
                if (kinds[from + i] != types.kind(row, i)) {
                    return false;
                }
            }
            return true;
        }

        /** Calls a function with the arguments at a place; the caller's frame knows where the results go. */
        void invoke(int function, int from) {
            if (!store.isHosts(function)) {
                enter(function, from);
                return;
            }
            tell(Types.parameters(store.typeOf(function)), from);
            state = ASKED;
            asked = function;
        }

        private void enter(int function, int from) {
            int at = function * Store.FUNCTION_WIDTH;
            Module module = store.instances[store.functions[at + Store.OWNER]].module;
            int body = store.functions[at + Store.BODY] * Module.BODY_WIDTH;
            int asks = module.bodies[body + Module.BODY_LOCAL_COUNT] + module.bodies[body + Module.BODY_MOST];
            if (depth == FRAMES || used + asks > VALUES) {
                stop(EXHAUSTED);
                return;
            }
            int parameters = types.lengths[Types.parameters(store.functions[at + Store.TYPE])];
            System.arraycopy(values, from, values, used, parameters);
            System.arraycopy(kinds, from, kinds, used, parameters);
            clearLocals(module, body, used + parameters);
            depth++;
            frames[innermost() + FRAME_FUNCTION] = function;
            frames[innermost() + FRAME_AT] = Stack.START;
            frames[innermost() + FRAME_BASE] = used;
            frames[innermost() + FRAME_TOP] = used + module.bodies[body + Module.BODY_LOCAL_COUNT];
            frames[innermost() + FRAME_REGISTERS] = countFrame(at) ? 1 : 0;
            used += asks;
            moved = true;
        }

        private void clearLocals(Module module, int body, int from) {
            int at = from;
            for (int i = module.bodies[body + Module.BODY_LOCALS]; i < module.bodies[body + Module.BODY_LOCALS_END]; i += 2) {
                int kind = module.locals[i + 1];
                int behind = at + module.locals[i];
                Arrays.fill(values, at, behind, Types.isReference(kind) ? -1 : 0);
                Arrays.fill(kinds, at, behind, (byte) kind);
                at = behind;
            }
        }

        /** Counts a frame of the function at a place of the store, and tells whether it has changed over. */
        private boolean countFrame(int at) {
            store.functions[at + Store.FRAMES_MADE]++;
            if (store.functions[at + Store.CHANGED] == 0 && threshold > 0
                    && store.functions[at + Store.FRAMES_MADE] >= threshold) {
                store.functions[at + Store.CHANGED] = 1;
                changedOver++;
            }
            return store.functions[at + Store.CHANGED] == 1;
        }

        /** Ends the innermost frame, whose results lie below a place. */
        void leave(int behind) {
            int row = Types.results(store.typeOf(frames[innermost() + FRAME_FUNCTION]));
            int count = types.lengths[row];
            used = frames[innermost() + FRAME_BASE];
            depth--;
            moved = true;
            if (depth == 0) {
                state = ENDED;
                tell(row, behind - count);
                return;
            }
            int top = frames[innermost() + FRAME_TOP];
            System.arraycopy(values, behind - count, values, top, count);
            System.arraycopy(kinds, behind - count, kinds, top, count);
            frames[innermost() + FRAME_TOP] = top + count;
        }

        /** Goes on with what HOST answered. */
        void resume(long[] given, int row) {
            asked = -1;
            if (depth == 0) {
                take(given, row, 0);
                state = ENDED;
                tell(row, 0);
                return;
            }
            int top = frames[innermost() + FRAME_TOP];
            take(given, row, top);
            frames[innermost() + FRAME_TOP] = top + types.lengths[row];
            toldCount = 0;
            state = RUNNING;
        }

        /** Does up to so many steps, and what is no step behind them: how many it did. */
        int advance(int budget) {
            int left = budget;
            moved = true;
            for (int turn = 0; turn < TURNS && moved && state == RUNNING; turn++) {
                moved = false;
                Instance instance = store.instances[store.functions[ownerAt()]];
                int body = store.functions[ownerAt() + Store.BODY] * Module.BODY_WIDTH;
                if (frames[innermost() + FRAME_REGISTERS] == 1 && registers.compile(instance.module, body)) {
                    left = registers.work(this, instance, body, left);
                } else {
                    frames[innermost() + FRAME_REGISTERS] = 0;
                    left = stack.work(this, instance, body, left);
                }
            }
            steps += budget - left;
            return budget - left;
        }

        private int ownerAt() {
            return frames[innermost() + FRAME_FUNCTION] * Store.FUNCTION_WIDTH;
        }
    }

    /** The machine over flattened code with a stack. */
    private static final class Stack {
        static final int START = -1;

        private final Store store;
        private final Types types;
        private Machine machine;
        private long[] values;
        private byte[] kinds;
        private Instance instance;
        private int[] code;
        private int at;
        private int next;
        private int base;
        private int floor;
        private int top;

        Stack(Store store, Types types) {
            this.store = store;
            this.types = types;
        }

        /** Works on the innermost frame until it stops, another frame is innermost, or no step is left: how many are. */
        int work(Machine owner, Instance ofFrame, int body, int budget) {
            open(owner, ofFrame, body);
            int left = budget;
            for (int turn = 0; turn < TURNS && !machine.moved && machine.state == RUNNING; turn++) {
                at = next;
                int op = code[at];
                if (op == 5) {
                    next = code[at + 1];
                    continue;
                }
                if (op == 11) {
                    machine.leave(top);
                    continue;
                }
                if (left == 0) {
                    break;
                }
                left--;
                next = at + Checker.RECORD;
                if (op >= 69 && op <= 207) {
                    operate(op);
                } else if (op >= 32 && op <= 38) {
                    useVariable(op);
                } else if (op >= 40 && op <= 62) {
                    useMemory(op);
                } else if (op >= 220) {
                    doStretch(op);
                } else if (op >= 63) {
                    doOther(op);
                } else if (op == 16 || op == 17) {
                    callFunction(op);
                } else {
                    control(op);
                }
            }
            if (machine.state == RUNNING && !machine.moved) {
                keep();
            }
            return left;
        }

        private void open(Machine owner, Instance ofFrame, int body) {
            machine = owner;
            values = owner.values;
            kinds = owner.kinds;
            instance = ofFrame;
            code = ofFrame.module.code;
            int frame = machine.innermost();
            base = machine.frames[frame + Machine.FRAME_BASE];
            floor = base + ofFrame.module.bodies[body + Module.BODY_LOCAL_COUNT];
            top = machine.frames[frame + Machine.FRAME_TOP];
            next = machine.frames[frame + Machine.FRAME_AT];
            if (next == START) {
                next = ofFrame.module.bodies[body + Module.BODY_CODE];
            }
        }

        private void keep() {
            int frame = machine.innermost();
            machine.frames[frame + Machine.FRAME_AT] = next;
            machine.frames[frame + Machine.FRAME_TOP] = top;
        }

        /** True when fewer operands are there than are wanted. The check of types leaves no way to that. */
        private boolean lacks(int count) {
            if (top - count >= floor) {
                return false;
            }
            machine.unsound++;
            machine.stop(GIVEN_UP);
            return true;
        }

        private void doubt(boolean otherTypes) {
            if (otherTypes) {
                machine.unsound++;
            }
        }

        private void put(long value, int kind) {
            values[top] = value;
            kinds[top] = (byte) kind;
            top++;
        }

        private void operate(int op) {
            int signature = Numbers.signature(op);
            int count = Numbers.takes(signature);
            if (lacks(count)) {
                return;
            }
            int kind = Numbers.taken(signature);
            top -= count;
            doubt(kinds[top] != kind || count == 2 && kinds[top + 1] != kind);
            long x = values[top];
            long y = count == 2 ? values[top + 1] : 0;
            int trap = Numbers.mayTrap(op) ? Numbers.trap(op, x, y) : 0;
            if (trap != 0) {
                machine.fail(trap);
                return;
            }
            long result = op <= 138 ? Numbers.whole(op, x, y)
                : op <= 166 ? Numbers.floating(op, x, y) : Numbers.convert(op, x);
            put(result, Numbers.given(signature));
        }

        private void useVariable(int op) {
            int index = code[at + 1];
            int count = op == 32 || op == 35 ? 0 : op == 38 ? 2 : 1;
            if (lacks(count)) {
                return;
            }
            int local = base + index;
            switch (op) {
                case 32:
                    put(values[local], kinds[local]);
                    break;
                case 33: case 34:
                    doubt(kinds[top - 1] != kinds[local]);
                    values[local] = values[top - 1];
                    top -= op == 33 ? 1 : 0;
                    break;
                case 35:
                    put(store.globals[instance.globals[index]], store.globalType(instance.globals[index]));
                    break;
                case 36:
                    top--;
                    doubt(kinds[top] != store.globalType(instance.globals[index]));
                    store.globals[instance.globals[index]] = values[top];
                    break;
                default:
                    useEntry(op, instance.tables[index]);
                    break;
            }
        }

        private void useEntry(int op, int table) {
            int kind = store.tableKind(table);
            int where = op == 37 ? top - 1 : top - 2;
            doubt(kinds[where] != I32 || op == 38 && kinds[where + 1] != kind);
            long index = values[where] & LOW;
            if (index >= store.tableSize(table)) {
                machine.fail(6);
                return;
            }
            top = where;
            if (op == 37) {
                put(store.entries[table][(int) index], kind);
            } else {
                store.entries[table][(int) index] = (int) values[where + 1];
            }
        }

        private void useMemory(int op) {
            int count = op < 54 ? 1 : 2;
            if (lacks(count)) {
                return;
            }
            top -= count;
            int kind = Checker.memoryKind(op);
            doubt(kinds[top] != I32 || count == 2 && kinds[top + 1] != kind);
            long address = (values[top] & LOW) + (code[at + 1] & LOW);
            int length = 1 << Checker.WIDTHS[op - 40];
            if (!store.within(instance.memory, address, length)) {
                machine.fail(5);
            } else if (count == 2) {
                store.save(instance.memory, (int) address, length, values[top + 1]);
            } else {
                put(store.fetch(op, instance.memory, (int) address), kind);
            }
        }

        private void doOther(int op) {
            if (lacks(op == 64 || op == 209 ? 1 : 0)) {
                return;
            }
            switch (op) {
                case 63:
                    put(store.memoryPages(instance.memory), I32);
                    break;
                case 64:
                    top--;
                    doubt(kinds[top] != I32);
                    put(store.growMemory(instance.memory, values[top] & LOW), I32);
                    break;
                case 209:
                    top--;
                    doubt(!Types.isReference(kinds[top]));
                    put(values[top] == -1 ? 1 : 0, I32);
                    break;
                case 210:
                    put(instance.functions[code[at + 1]], FUNCTION);
                    break;
                default:
                    put((long) code[at + 2] << 32 | code[at + 1] & LOW, code[at + 3]);
                    break;
            }
        }

        private void doStretch(int op) {
            int first = code[at + 1];
            int count = op == 221 || op == 225 || op == 228 ? 0 : op == 227 ? 2 : 3;
            if (lacks(count)) {
                return;
            }
            top -= count;
            if (op == 228) {
                put(store.tableSize(instance.tables[first]), I32);
            } else if (op == 227) {
                doubt(kinds[top] != store.tableKind(instance.tables[first]) || kinds[top + 1] != I32);
                put(store.growTable(instance.tables[first], values[top + 1] & LOW, (int) values[top]), I32);
            } else if (count == 0) {
                store.stretch(instance, op, first, 0, 0, 0, 0);
            } else {
                int middle = op == 229 ? store.tableKind(instance.tables[first]) : I32;
                doubt(kinds[top] != I32 || kinds[top + 1] != middle || kinds[top + 2] != I32);
                int trap = store.stretch(instance, op, first, code[at + 2],
                    values[top] & LOW, values[top + 1] & LOW, values[top + 2] & LOW);
                if (trap != 0) {
                    machine.fail(trap);
                }
            }
        }

        private void control(int op) {
            int count = op == 4 || op == 13 || op == 14 || op == 26 ? 1 : op == 27 ? 3 : 0;
            if (lacks(count)) {
                return;
            }
            top -= count;
            int last = top + count - 1;
            doubt(count > 0 && op != 26 && kinds[last] != I32);
            int number = count > 0 ? (int) values[last] : 0;
            switch (op) {
                case 0: machine.fail(1); break;
                case 4: next = number == 0 ? code[at + 1] : next; break;
                case 12: branch(at); break;
                case 13:
                    if (number != 0) {
                        branch(at);
                    }
                    break;
                case 14: branch(at + Checker.RECORD * (1 + (int) Math.min(number & LOW, code[at + 1]))); break;
                case 15: giveBack(); break;
                case 27: choose(number != 0); break;
                default: break;
            }
        }

        private void branch(int record) {
            int row = code[record + 2];
            int count = types.lengths[row];
            if (lacks(count)) {
                return;
            }
            doubt(!machine.match(row, top - count));
            int to = floor + code[record + 3];
            System.arraycopy(values, top - count, values, to, count);
            System.arraycopy(kinds, top - count, kinds, to, count);
            top = to + count;
            next = code[record + 1];
        }

        private void choose(boolean first) {
            doubt(kinds[top] != kinds[top + 1]);
            values[top] = first ? values[top] : values[top + 1];
            top++;
        }

        private void giveBack() {
            if (lacks(code[at + 1])) {
                return;
            }
            int row = Types.results(store.typeOf(machine.frames[machine.innermost() + Machine.FRAME_FUNCTION]));
            doubt(!machine.match(row, top - code[at + 1]));
            machine.leave(top);
        }

        private void callFunction(int op) {
            int function = op == 16 ? instance.functions[code[at + 1]] : indirectFunction();
            if (function < 0) {
                return;
            }
            int row = Types.parameters(store.typeOf(function));
            int count = types.lengths[row];
            if (lacks(count)) {
                return;
            }
            top -= count;
            doubt(!machine.match(row, top));
            keep();
            machine.invoke(function, top);
        }

        private int indirectFunction() {
            if (lacks(1)) {
                return -1;
            }
            top--;
            doubt(kinds[top] != I32);
            int function = store.functionAt(instance.tables[code[at + 2]], values[top] & LOW, code[at + 1]);
            if (function < 0) {
                machine.fail(-function);
            }
            return function;
        }
    }

    /**
     * The machine over registers, and its compiler. A frame's locals and the places of its operands are its registers;
     * a source below zero is the record of a constant in the flattened code. Constants and locals that are only put
     * are no instructions here: their steps are counted with the instruction behind them, which is done when all are.
     */
    private static final class Registers {
        private static final int RECORD = 8;
        private static final int TARGET = 1;
        private static final int ONE = 2;
        private static final int TWO = 3;
        private static final int THREE = 4;
        private static final int FIRST = 5;
        private static final int SECOND = 6;
        private static final int WEIGHT = 7;
        private static final int PAUSE = 1;
        private static final int MOVE = 2;
        private static final int ROOM = 4096;
        private static final int NONE = -1;

        private final Types types;
        private final int[] draft = new int[ROOM * RECORD];
        private final int[] depthAt = new int[ROOM];
        private final int[] placeAt = new int[ROOM];
        private final int[] sources = new int[OPERANDS];
        private Module module;
        private int locals;
        private int size;
        private int depth;
        private int pending;
        private int fresh;
        private boolean live;
        private Machine machine;
        private long[] values;
        private byte[] kinds;
        private Instance instance;
        private int[] code;
        private int at;
        private int next;
        private int base;

        Registers(Types types) {
            this.types = types;
        }

        /** Makes code for registers of a body, unless that was done: whether there is such code. */
        boolean compile(Module ofBody, int body) {
            int known = ofBody.bodies[body + Module.BODY_REGISTERS];
            if (known != Module.NOT_COMPILED) {
                return known == Module.COMPILED;
            }
            module = ofBody;
            locals = module.bodies[body + Module.BODY_LOCAL_COUNT];
            int start = module.bodies[body + Module.BODY_CODE];
            int end = module.bodies[body + Module.BODY_CODE_END];
            boolean room = (end - start) / Checker.RECORD <= ROOM;
            if (room) {
                findTargets(start, end);
                translateAll(start, end);
                room = size <= draft.length;
            }
            if (room) {
                resolveTargets(start);
                module.registers[body / Module.BODY_WIDTH] = Arrays.copyOf(draft, size);
            }
            module.bodies[body + Module.BODY_REGISTERS] = room ? Module.COMPILED : Module.NO_ROOM;
            return room;
        }

        private static boolean isJump(int op) {
            return op == 4 || op == 5 || op == 12 || op == 13;
        }

        /** Notes how many operands there are at each place that is jumped to. */
        private void findTargets(int start, int end) {
            int[] flat = module.code;
            Arrays.fill(depthAt, 0, (end - start) / Checker.RECORD, NONE);
            for (int i = start; i < end; i += Checker.RECORD) {
                if (isJump(flat[i])) {
                    depthAt[(flat[i + 1] - start) / Checker.RECORD] = types.lengths[flat[i + 2]] + flat[i + 3];
                }
            }
        }

        private void translateAll(int start, int end) {
            int[] flat = module.code;
            size = 0;
            depth = 0;
            pending = 0;
            fresh = NONE;
            live = true;
            for (int i = start; i < end; i += Checker.RECORD) {
                int target = depthAt[(i - start) / Checker.RECORD];
                if (target != NONE) {
                    meet(target);
                    placeAt[(i - start) / Checker.RECORD] = size;
                }
                if (live) {
                    translate(i);
                }
                // The records of a 14's branches stand behind it, and are made with it.
                if (flat[i] == 14) {
                    i += Checker.RECORD * (flat[i + 1] + 1);
                }
            }
        }

        /** Where ways meet, all operands are in their own registers, and no steps are left to be counted. */
        private void meet(int depthThere) {
            if (live) {
                spill(0);
                if (pending > 0) {
                    emit(PAUSE, 0, 0, 0, 0, 0, 0);
                }
            }
            live = true;
            fresh = NONE;
            depth = depthThere;
            for (int i = 0; i < depth; i++) {
                sources[i] = locals + i;
            }
        }

        private void resolveTargets(int start) {
            for (int i = 0; i < size; i += RECORD) {
                if (isJump(draft[i])) {
                    draft[i + FIRST] = placeAt[(draft[i + FIRST] - start) / Checker.RECORD];
                }
            }
        }

        private void emit(int op, int target, int one, int two, int three, int first, int second) {
            if (size + RECORD <= draft.length) {
                draft[size] = op;
                draft[size + TARGET] = target;
                draft[size + ONE] = one;
                draft[size + TWO] = two;
                draft[size + THREE] = three;
                draft[size + FIRST] = first;
                draft[size + SECOND] = second;
                draft[size + WEIGHT] = pending;
            }
            size += RECORD;
            pending = 0;
            fresh = NONE;
        }

        /** Emits what has a result; if it is pure, its result may still be turned to a local. */
        private void emitResult(int op, int one, int two, int three, int first, int second) {
            int target = locals + depth;
            emit(op, target, one, two, three, first, second);
            push(target);
            boolean operator = op >= 69 && op <= 207 && !Numbers.mayTrap(op);
            fresh = operator || op == 27 || op == 35 || op == 209 || op == 210 ? target : NONE;
        }

        private void push(int source) {
            sources[depth] = source;
            depth++;
        }

        private int pop() {
            depth--;
            return sources[depth];
        }

        /** Moves the operands from one on into their own registers. */
        private void spill(int from) {
            for (int i = from; i < depth; i++) {
                if (sources[i] != locals + i) {
                    emit(MOVE, locals + i, sources[i], 0, 0, 0, 0);
                    sources[i] = locals + i;
                }
            }
        }

        private void translate(int record) {
            int[] flat = module.code;
            int op = flat[record];
            if (op != 5 && op != 11) {
                pending++;
            }
            if (op >= 69 && op <= 207) {
                int two = Numbers.takes(Numbers.signature(op)) == 2 ? pop() : 0;
                emitResult(op, pop(), two, 0, 0, 0);
            } else if (op >= 65 && op <= 68 || op == 208) {
                push(~record);
            } else if (op >= 40 && op <= 64) {
                translateMemory(op, flat[record + 1]);
            } else if (op >= 209) {
                translateOther(op, flat[record + 1], flat[record + 2]);
            } else if (op >= 26) {
                translateVariable(op, flat[record + 1]);
            } else if (op == 16 || op == 17) {
                translateCall(op, flat[record + 1], flat[record + 2]);
            } else {
                translateControl(op, record);
            }
        }

        private void translateMemory(int op, int offset) {
            if (op == 63) {
                emitResult(op, 0, 0, 0, 0, 0);
            } else if (op == 64 || op < 54) {
                emitResult(op, pop(), 0, 0, offset, 0);
            } else {
                int value = pop();
                emit(op, 0, pop(), value, 0, offset, 0);
            }
        }

        private void translateOther(int op, int first, int second) {
            switch (op) {
                case 209: emitResult(op, pop(), 0, 0, 0, 0); break;
                case 210: case 228: emitResult(op, 0, 0, 0, first, 0); break;
                case 221: case 225: emit(op, 0, 0, 0, 0, first, second); break;
                case 227:
                    int more = pop();
                    emitResult(op, pop(), more, 0, first, 0);
                    break;
                default:
                    int length = pop();
                    int from = pop();
                    emit(op, 0, pop(), from, length, first, second);
                    break;
            }
        }

        private void translateVariable(int op, int index) {
            switch (op) {
                case 26: pop(); break;
                case 27:
                    int condition = pop();
                    int other = pop();
                    emitResult(op, pop(), other, condition, 0, 0);
                    break;
                case 32: push(index); break;
                case 33: setLocal(index, pop()); break;
                case 34:
                    setLocal(index, pop());
                    push(index);
                    break;
                case 35: emitResult(op, 0, 0, 0, index, 0); break;
                case 36: emit(op, 0, pop(), 0, 0, index, 0); break;
                case 37: emitResult(op, pop(), 0, 0, index, 0); break;
                default:
                    int value = pop();
                    emit(op, 0, pop(), value, 0, index, 0);
                    break;
            }
        }

        /** Sets a local; operands that still stand for what it was are moved into their own registers ahead of that. */
        private void setLocal(int local, int source) {
            for (int i = 0; i < depth; i++) {
                if (sources[i] == local) {
                    emit(MOVE, locals + i, local, 0, 0, 0, 0);
                    sources[i] = locals + i;
                }
            }
            if (source >= locals && source == fresh && size <= draft.length) {
                draft[size - RECORD + TARGET] = local;
                draft[size - RECORD + WEIGHT] += pending;
                pending = 0;
                fresh = NONE;
            } else {
                emit(MOVE, local, source, 0, 0, 0, 0);
            }
        }

        private void translateCall(int op, int first, int second) {
            int type = op == 16 ? module.functions[first] : first;
            int index = op == 17 ? pop() : 0;
            int count = types.lengths[Types.parameters(type)];
            spill(depth - count);
            depth -= count;
            emit(op, locals + depth, index, 0, 0, first, second);
            for (int i = 0; i < types.lengths[Types.results(type)]; i++) {
                push(locals + depth);
            }
        }

        private void translateControl(int op, int record) {
            int[] flat = module.code;
            int condition = op == 4 || op == 13 || op == 14 ? pop() : 0;
            switch (op) {
                case 0:
                    emit(op, 0, 0, 0, 0, 0, 0);
                    break;
                case 1:
                    return;
                case 11: case 15:
                    spill(depth - flat[record + 1]);
                    emit(op, 0, locals + depth, 0, 0, 0, 0);
                    break;
                case 14:
                    spill(0);
                    emit(op, 0, condition, 0, 0, flat[record + 1], 0);
                    for (int i = 0; i <= flat[record + 1]; i++) {
                        emitJump(12, 0, record + Checker.RECORD * (i + 1));
                    }
                    break;
                default:
                    spill(0);
                    emitJump(op, condition, record);
                    break;
            }
            live = op == 4 || op == 13;
        }

        private void emitJump(int op, int condition, int record) {
            int[] flat = module.code;
            int row = flat[record + 2];
            int from = locals + depth - types.lengths[row];
            emit(op, locals + flat[record + 3], condition, from, 0, flat[record + 1], row);
        }

        /** Works on the innermost frame until it stops, another frame is innermost, or no step is left: how many are. */
        int work(Machine owner, Instance ofFrame, int body, int budget) {
            open(owner, ofFrame, body);
            int left = budget;
            for (int turn = 0; turn < TURNS && !machine.moved && machine.state == RUNNING; turn++) {
                int due = code[next + WEIGHT] - machine.paid;
                if (due > left) {
                    machine.paid += left;
                    left = 0;
                    break;
                }
                left -= due;
                machine.paid = 0;
                at = next;
                next = at + RECORD;
                int op = code[at];
                if (op >= 69 && op <= 207) {
                    operate(op);
                } else if (op == MOVE) {
                    write(read(ONE), kindOf(ONE));
                } else if (op >= 40 && op <= 62) {
                    useMemory(op);
                } else if (op >= 220) {
                    doStretch(op);
                } else if (op >= 26) {
                    doOther(op);
                } else if (op == 16 || op == 17) {
                    callFunction(op);
                } else {
                    control(op);
                }
            }
            if (machine.state == RUNNING && !machine.moved) {
                machine.frames[machine.innermost() + Machine.FRAME_AT] = next;
            }
            return left;
        }

        private void open(Machine owner, Instance ofFrame, int body) {
            machine = owner;
            values = owner.values;
            kinds = owner.kinds;
            instance = ofFrame;
            module = ofFrame.module;
            code = module.registers[body / Module.BODY_WIDTH];
            locals = module.bodies[body + Module.BODY_LOCAL_COUNT];
            int frame = machine.innermost();
            base = machine.frames[frame + Machine.FRAME_BASE];
            next = Math.max(0, machine.frames[frame + Machine.FRAME_AT]);
        }

        private long read(int which) {
            int source = code[at + which];
            if (source >= 0) {
                return values[base + source];
            }
            return (long) module.code[~source + 2] << 32 | module.code[~source + 1] & LOW;
        }

        private int kindOf(int which) {
            int source = code[at + which];
            return source >= 0 ? kinds[base + source] : module.code[~source + 3];
        }

        private void write(long value, int kind) {
            int target = code[at + TARGET];
            doubt(target < locals && kinds[base + target] != kind);
            values[base + target] = value;
            kinds[base + target] = (byte) kind;
        }

        private void doubt(boolean otherTypes) {
            if (otherTypes) {
                machine.unsound++;
            }
        }

        private void operate(int op) {
            int signature = Numbers.signature(op);
            boolean two = Numbers.takes(signature) == 2;
            int kind = Numbers.taken(signature);
            doubt(kindOf(ONE) != kind || two && kindOf(TWO) != kind);
            long x = read(ONE);
            long y = two ? read(TWO) : 0;
            int trap = Numbers.mayTrap(op) ? Numbers.trap(op, x, y) : 0;
            if (trap != 0) {
                machine.fail(trap);
                return;
            }
            long result = op <= 138 ? Numbers.whole(op, x, y)
                : op <= 166 ? Numbers.floating(op, x, y) : Numbers.convert(op, x);
            write(result, Numbers.given(signature));
        }

        private void useMemory(int op) {
            int kind = Checker.memoryKind(op);
            doubt(kindOf(ONE) != I32 || op >= 54 && kindOf(TWO) != kind);
            long address = (read(ONE) & LOW) + (code[at + FIRST] & LOW);
            int length = 1 << Checker.WIDTHS[op - 40];
            if (!machine.store.within(instance.memory, address, length)) {
                machine.fail(5);
            } else if (op >= 54) {
                machine.store.save(instance.memory, (int) address, length, read(TWO));
            } else {
                write(machine.store.fetch(op, instance.memory, (int) address), kind);
            }
        }

        private void doStretch(int op) {
            Store store = machine.store;
            int first = code[at + FIRST];
            if (op == 228) {
                write(store.tableSize(instance.tables[first]), I32);
            } else if (op == 227) {
                doubt(kindOf(ONE) != store.tableKind(instance.tables[first]) || kindOf(TWO) != I32);
                write(store.growTable(instance.tables[first], read(TWO) & LOW, (int) read(ONE)), I32);
            } else if (op == 221 || op == 225) {
                store.stretch(instance, op, first, 0, 0, 0, 0);
            } else {
                int middle = op == 229 ? store.tableKind(instance.tables[first]) : I32;
                doubt(kindOf(ONE) != I32 || kindOf(TWO) != middle || kindOf(THREE) != I32);
                int trap = store.stretch(instance, op, first, code[at + SECOND],
                    read(ONE) & LOW, read(TWO) & LOW, read(THREE) & LOW);
                if (trap != 0) {
                    machine.fail(trap);
                }
            }
        }

        private void doOther(int op) {
            Store store = machine.store;
            int first = code[at + FIRST];
            switch (op) {
                case 27:
                    doubt(kindOf(ONE) != kindOf(TWO) || kindOf(THREE) != I32);
                    write((int) read(THREE) != 0 ? read(ONE) : read(TWO), kindOf(ONE));
                    break;
                case 35:
                    write(store.globals[instance.globals[first]], store.globalType(instance.globals[first]));
                    break;
                case 36:
                    doubt(kindOf(ONE) != store.globalType(instance.globals[first]));
                    store.globals[instance.globals[first]] = read(ONE);
                    break;
                case 37: case 38:
                    useEntry(op, instance.tables[first]);
                    break;
                case 63:
                    write(store.memoryPages(instance.memory), I32);
                    break;
                case 64:
                    doubt(kindOf(ONE) != I32);
                    write(store.growMemory(instance.memory, read(ONE) & LOW), I32);
                    break;
                case 209:
                    doubt(!Types.isReference(kindOf(ONE)));
                    write(read(ONE) == -1 ? 1 : 0, I32);
                    break;
                default:
                    write(instance.functions[first], FUNCTION);
                    break;
            }
        }

        private void useEntry(int op, int table) {
            int kind = machine.store.tableKind(table);
            doubt(kindOf(ONE) != I32 || op == 38 && kindOf(TWO) != kind);
            long index = read(ONE) & LOW;
            if (index >= machine.store.tableSize(table)) {
                machine.fail(6);
            } else if (op == 37) {
                write(machine.store.entries[table][(int) index], kind);
            } else {
                machine.store.entries[table][(int) index] = (int) read(TWO);
            }
        }

        private void control(int op) {
            switch (op) {
                case 0:
                    machine.fail(1);
                    break;
                case 4: case 13:
                    doubt(kindOf(ONE) != I32);
                    if ((int) read(ONE) == 0 == (op == 4)) {
                        branch(at);
                    }
                    break;
                case 5: case 12:
                    branch(at);
                    break;
                case 14:
                    doubt(kindOf(ONE) != I32);
                    branch(at + RECORD * (1 + (int) Math.min(read(ONE) & LOW, code[at + FIRST])));
                    break;
                case 11: case 15:
                    giveBack();
                    break;
                default:
                    break;
            }
        }

        private void branch(int record) {
            int row = code[record + SECOND];
            int from = base + code[record + TWO];
            int to = base + code[record + TARGET];
            doubt(!machine.match(row, from));
            System.arraycopy(values, from, values, to, types.lengths[row]);
            System.arraycopy(kinds, from, kinds, to, types.lengths[row]);
            next = code[record + FIRST];
        }

        private void giveBack() {
            int row = Types.results(machine.store.typeOf(machine.frames[machine.innermost() + Machine.FRAME_FUNCTION]));
            int behind = base + code[at + ONE];
            doubt(!machine.match(row, behind - types.lengths[row]));
            machine.leave(behind);
        }

        private void callFunction(int op) {
            int function = op == 16 ? instance.functions[code[at + FIRST]] : indirectFunction();
            if (function < 0) {
                return;
            }
            int from = base + code[at + TARGET];
            doubt(!machine.match(Types.parameters(machine.store.typeOf(function)), from));
            int frame = machine.innermost();
            machine.frames[frame + Machine.FRAME_AT] = next;
            machine.frames[frame + Machine.FRAME_TOP] = from;
            machine.invoke(function, from);
        }

        private int indirectFunction() {
            doubt(kindOf(ONE) != I32);
            int table = instance.tables[code[at + SECOND]];
            int function = machine.store.functionAt(table, read(ONE) & LOW, code[at + FIRST]);
            if (function < 0) {
                machine.fail(-function);
            }
            return function;
        }
    }

    /**
     * Part III: the operators 69 .. 196 and 200 .. 207. Of values of 32 bits the highest 32 of the long are never
     * looked at. Floating numbers are worked out with whole ones: m * 2 ^ q, m being below 2 ^ 63; where bits of
     * m are lost, its lowest bit is set instead, which lies far enough below to be rounded rightly.
     */
    private static final class Numbers {
        private static final int[] SIGNATURES = {
            0x100,
            0x200, 0x200, 0x200, 0x200, 0x200, 0x200, 0x200, 0x200, 0x200, 0x200,
            0x110,
            0x210, 0x210, 0x210, 0x210, 0x210, 0x210, 0x210, 0x210, 0x210, 0x210,
            0x220, 0x220, 0x220, 0x220, 0x220, 0x220,
            0x230, 0x230, 0x230, 0x230, 0x230, 0x230,
            0x100, 0x100, 0x100,
            0x200, 0x200, 0x200, 0x200, 0x200, 0x200, 0x200, 0x200, 0x200, 0x200, 0x200, 0x200, 0x200, 0x200, 0x200,
            0x111, 0x111, 0x111,
            0x211, 0x211, 0x211, 0x211, 0x211, 0x211, 0x211, 0x211, 0x211, 0x211, 0x211, 0x211, 0x211, 0x211, 0x211,
            0x122, 0x122, 0x122, 0x122, 0x122, 0x122, 0x122,
            0x222, 0x222, 0x222, 0x222, 0x222, 0x222, 0x222,
            0x133, 0x133, 0x133, 0x133, 0x133, 0x133, 0x133,
            0x233, 0x233, 0x233, 0x233, 0x233, 0x233, 0x233,
            0x110, 0x120, 0x120, 0x130, 0x130,
            0x101, 0x101, 0x121, 0x121, 0x131, 0x131,
            0x102, 0x102, 0x112, 0x112, 0x132,
            0x103, 0x103, 0x113, 0x113, 0x123,
            0x120, 0x131, 0x102, 0x113,
            0x100, 0x100, 0x111, 0x111, 0x111,
            0, 0, 0,
            0x120, 0x120, 0x130, 0x130, 0x121, 0x121, 0x131, 0x131};
        private static final long SIGN = 0x80000000L;
        private static final long WIDE_SIGN = Long.MIN_VALUE;
        private static final long INFINITE = 0x7F800000L;
        private static final long WIDE_INFINITE = 0x7FF0000000000000L;
        private static final int CEILING = 2;
        private static final int FLOOR = 3;
        private static final int NEAREST = 5;
        private static final int FITS = 0;
        private static final int BELOW = -1;
        private static final int ABOVE = 1;
        private static final int NO_NUMBER = 2;

        static int signature(int op) {
            return op >= 69 && op <= 207 ? SIGNATURES[op - 69] : 0;
        }

        static int takes(int signature) {
            return signature >> 8;
        }

        static int taken(int signature) {
            return I32 - (signature >> 4 & 15);
        }

        static int given(int signature) {
            return I32 - (signature & 15);
        }

        static boolean mayTrap(int op) {
            return op >= 109 && op <= 112 || op >= 127 && op <= 130 || op >= 168 && op <= 171 || op >= 174 && op <= 177;
        }

        /** The trap of an operator that may have one, as Part V counts them; 0 when there is none. */
        static int trap(int op, long x, long y) {
            if (op >= 168) {
                int k = op >= 174 ? op - 170 : op - 168;
                int reach = reach(k, x, wholePart((k & 2) != 0, x));
                return reach == FITS ? 0 : reach == NO_NUMBER ? 4 : 3;
            }
            boolean small = op <= 112;
            long divisor = small ? (int) y : y;
            if (divisor == 0) {
                return 2;
            }
            boolean signedQuotient = op == 109 || op == 127;
            boolean least = small ? (int) x == Integer.MIN_VALUE : x == Long.MIN_VALUE;
            return signedQuotient && least && divisor == -1 ? 3 : 0;
        }

        /** The result of an operator 69 .. 138. */
        static long whole(int op, long x, long y) {
            if (op <= 79) {
                return compare(op - 69, (int) x, (int) y) ? 1 : 0;
            }
            if (op <= 90) {
                return compare(op - 80, x, y) ? 1 : 0;
            }
            if (op <= 102) {
                return compareFloating(op, x, y) ? 1 : 0;
            }
            if (op <= 120) {
                return whole32(op - 103, (int) x, (int) y);
            }
            return whole64(op - 121, x, y);
        }

        // Numbers of 32 bits come here with their sign, which keeps their order without sign, too.
        private static boolean compare(int k, long x, long y) {
            int withSign = Long.compare(x, y);
            int without = Long.compareUnsigned(x, y);
            switch (k) {
                case 0: return x == 0;
                case 1: return x == y;
                case 2: return x != y;
                case 3: return withSign < 0;
                case 4: return without < 0;
                case 5: return withSign > 0;
                case 6: return without > 0;
                case 7: return withSign <= 0;
                case 8: return without <= 0;
                case 9: return withSign >= 0;
                default: return without >= 0;
            }
        }

        private static long whole32(int k, int x, int y) {
            switch (k) {
                case 0: return Integer.numberOfLeadingZeros(x);
                case 1: return Integer.numberOfTrailingZeros(x);
                case 2: return Integer.bitCount(x);
                case 3: return x + y;
                case 4: return x - y;
                case 5: return x * y;
                case 6: return y == 0 ? 0 : x / y;
                case 7: return y == 0 ? 0 : (x & LOW) / (y & LOW);
                case 8: return y == 0 ? 0 : x % y;
                case 9: return y == 0 ? 0 : (x & LOW) % (y & LOW);
                case 10: return x & y;
                case 11: return x | y;
                case 12: return x ^ y;
                case 13: return x << y;
                case 14: return x >> y;
                case 15: return x >>> y;
                case 16: return Integer.rotateLeft(x, y);
                default: return Integer.rotateRight(x, y);
            }
        }

        private static long whole64(int k, long x, long y) {
            switch (k) {
                case 0: return Long.numberOfLeadingZeros(x);
                case 1: return Long.numberOfTrailingZeros(x);
                case 2: return Long.bitCount(x);
                case 3: return x + y;
                case 4: return x - y;
                case 5: return x * y;
                case 6: return y == 0 ? 0 : x / y;
                case 7: return quotient(x, y);
                case 8: return y == 0 ? 0 : x % y;
                case 9: return x - quotient(x, y) * y;
                case 10: return x & y;
                case 11: return x | y;
                case 12: return x ^ y;
                case 13: return x << y;
                case 14: return x >> y;
                case 15: return x >>> y;
                case 16: return Long.rotateLeft(x, (int) y);
                default: return Long.rotateRight(x, (int) y);
            }
        }

        private static long quotient(long x, long y) {
            if (y == 0) {
                return 0;
            }
            if (y < 0) {
                return Long.compareUnsigned(x, y) >= 0 ? 1 : 0;
            }
            long near = (x >>> 1) / y << 1;
            return Long.compareUnsigned(x - near * y, y) >= 0 ? near + 1 : near;
        }

        private static boolean minus(boolean wide, long x) {
            return wide ? x < 0 : (int) x < 0;
        }

        private static long withoutSign(boolean wide, long x) {
            return x & (wide ? Long.MAX_VALUE : Integer.MAX_VALUE);
        }

        private static long signed(boolean wide, boolean minus, long x) {
            return minus ? x | (wide ? WIDE_SIGN : SIGN) : x;
        }

        private static long infinite(boolean wide) {
            return wide ? WIDE_INFINITE : INFINITE;
        }

        private static long none(boolean wide) {
            return wide ? 0x7FF8000000000000L : 0x7FC00000L;
        }

        private static boolean isNone(boolean wide, long x) {
            return wide ? (x & Long.MAX_VALUE) > WIDE_INFINITE : (x & Integer.MAX_VALUE) > INFINITE;
        }

        /** m of a number that is neither INFINITE nor NONE. */
        private static long significand(boolean wide, long x) {
            long hidden = wide ? 1L << 52 : 1L << 23;
            boolean small = wide ? (x & WIDE_INFINITE) == 0 : (x & INFINITE) == 0;
            return small ? x & hidden - 1 : x & hidden - 1 | hidden;
        }

        /** q of such a number. */
        private static int power(boolean wide, long x) {
            int exponent = (int) (wide ? (x & WIDE_INFINITE) >>> 52 : (x & INFINITE) >>> 23);
            return (exponent == 0 ? 1 : exponent) - (wide ? 1075 : 150);
        }

        private static long shiftedRight(long m, int by) {
            if (by > 62) {
                return m == 0 ? 0 : 1;
            }
            long lost = m & (1L << by) - 1;
            return lost == 0 ? m >>> by : m >>> by | 1;
        }

        /** TO ROUND: the value for m * 2 ^ q, m being above 0 and below 2 ^ 63. */
        private static long rounded(boolean wide, boolean minus, long m, int q) {
            int precision = wide ? 53 : 24;
            int least = wide ? -1074 : -149;
            int length = 64 - Long.numberOfLeadingZeros(m);
            int low = Math.max(q + length - precision, least);
            int shift = low - q;
            long kept = 0;
            if (shift <= 0) {
                kept = m << -shift;
            } else if (shift < 64) {
                kept = m >>> shift;
                long rest = m & (1L << shift) - 1;
                long half = 1L << (shift - 1);
                if (rest > half || rest == half && (kept & 1) == 1) {
                    kept++;
                }
            }
            // A carry out of the fraction goes on into the exponent, as it should; so does the hidden bit.
            int exponent = low - least;
            if (exponent > (wide ? 2046 : 254)) {
                return signed(wide, minus, infinite(wide));
            }
            long packed = ((long) exponent << (precision - 1)) + kept;
            return signed(wide, minus, Math.min(packed, infinite(wide)));
        }

        /** The result of an operator 139 .. 166. */
        static long floating(int op, long left, long right) {
            boolean wide = op >= 153;
            int k = wide ? op - 153 : op - 139;
            long sign = wide ? WIDE_SIGN : SIGN;
            long x = wide ? left : left & LOW;
            long y = wide ? right : right & LOW;
            switch (k) {
                case 0: return withoutSign(wide, x);
                case 1: return x ^ sign;
                case 13: return signed(wide, minus(wide, y), withoutSign(wide, x));
                default: break;
            }
            if (isNone(wide, x) || k > 6 && isNone(wide, y)) {
                return none(wide);
            }
            switch (k) {
                case 6: return root(wide, x);
                case 7: return sum(wide, x, y);
                case 8: return sum(wide, x, y ^ sign);
                case 9: return product(wide, x, y);
                case 10: return ratio(wide, x, y);
                case 11: return order(wide, x) <= order(wide, y) ? x : y;
                case 12: return order(wide, x) >= order(wide, y) ? x : y;
                default: return integral(wide, k, x);
            }
        }

        /** Numbers in their order; ZERO with sign just below the one without. */
        private static long order(boolean wide, long x) {
            return minus(wide, x) ? -withoutSign(wide, x) - 1 : withoutSign(wide, x);
        }

        private static boolean compareFloating(int op, long left, long right) {
            boolean wide = op >= 97;
            int k = wide ? op - 97 : op - 91;
            long x = wide ? left : left & LOW;
            long y = wide ? right : right & LOW;
            if (isNone(wide, x) || isNone(wide, y)) {
                return k == 1;
            }
            boolean zeros = withoutSign(wide, x) == 0 && withoutSign(wide, y) == 0;
            int order = zeros ? 0 : Long.compare(order(wide, x), order(wide, y));
            switch (k) {
                case 0: return order == 0;
                case 1: return order != 0;
                case 2: return order < 0;
                case 3: return order > 0;
                case 4: return order <= 0;
                default: return order >= 0;
            }
        }

        private static long integral(boolean wide, int k, long x) {
            boolean minus = minus(wide, x);
            int shift = -power(wide, x);
            if (shift <= 0) {
                return x;
            }
            long m = significand(wide, x);
            long result = shift > 62 ? 0 : m >>> shift;
            long rest = shift > 62 ? m : m & (1L << shift) - 1;
            long half = shift > 62 ? Long.MAX_VALUE : 1L << (shift - 1);
            boolean up = k == CEILING && !minus && rest > 0 || k == FLOOR && minus && rest > 0
                || k == NEAREST && (rest > half || rest == half && (result & 1) == 1);
            result += up ? 1 : 0;
            return result == 0 ? signed(wide, minus, 0) : rounded(wide, minus, result, 0);
        }

        private static long sum(boolean wide, long one, long other) {
            boolean inOrder = withoutSign(wide, one) >= withoutSign(wide, other);
            long x = inOrder ? one : other;
            long y = inOrder ? other : one;
            boolean minus = minus(wide, x);
            boolean same = minus == minus(wide, y);
            if (withoutSign(wide, x) == infinite(wide)) {
                return same || withoutSign(wide, y) != infinite(wide) ? x : none(wide);
            }
            int q = power(wide, x);
            long m = significand(wide, x) << 9;
            long lesser = shiftedRight(significand(wide, y) << 9, q - power(wide, y));
            long result = same ? m + lesser : m - lesser;
            if (result == 0) {
                return signed(wide, minus && same, 0);
            }
            return rounded(wide, minus, result, q - 9);
        }

        /** By how much m is shifted to have 53 bits. */
        private static int missing(long m) {
            return Long.numberOfLeadingZeros(m) - 11;
        }

        private static long product(boolean wide, long x, long y) {
            boolean minus = minus(wide, x) != minus(wide, y);
            long larger = Math.max(withoutSign(wide, x), withoutSign(wide, y));
            long lesser = Math.min(withoutSign(wide, x), withoutSign(wide, y));
            if (larger == infinite(wide)) {
                return lesser == 0 ? none(wide) : signed(wide, minus, larger);
            }
            if (lesser == 0) {
                return signed(wide, minus, 0);
            }
            long a = significand(wide, x);
            long b = significand(wide, y);
            int q = power(wide, x) - missing(a) + power(wide, y) - missing(b);
            a <<= missing(a);
            b <<= missing(b);
            long part = (1L << 27) - 1;
            long middle = (a >> 27) * (b & part) + (a & part) * (b >> 27);
            long low = (a & part) * (b & part) + ((middle & part) << 27);
            long high = (a >> 27) * (b >> 27) + (middle >> 27) + (low >> 54);
            long lowest = low & (1L << 54) - 1;
            long m = high << 10 | shiftedRight(lowest, 44);
            return rounded(wide, minus, m, q + 44);
        }

        private static long ratio(boolean wide, long x, long y) {
            boolean minus = minus(wide, x) != minus(wide, y);
            long above = withoutSign(wide, x);
            long below = withoutSign(wide, y);
            if (above == below && (above == 0 || above == infinite(wide))) {
                return none(wide);
            }
            if (above == infinite(wide) || below == 0) {
                return signed(wide, minus, infinite(wide));
            }
            if (below == infinite(wide) || above == 0) {
                return signed(wide, minus, 0);
            }
            long a = significand(wide, x);
            long b = significand(wide, y);
            int q = power(wide, x) - missing(a) - power(wide, y) + missing(b);
            a <<= missing(a);
            b <<= missing(b);
            if (b == 0) {
                return none(wide);
            }
            long m = a / b;
            long rest = a % b;
            for (int i = 0; i < 6; i++) {
                m = m << 10 | (rest << 10) / b;
                rest = (rest << 10) % b;
            }
            return rounded(wide, minus, rest == 0 ? m : m | 1, q - 60);
        }

        private static long root(boolean wide, long x) {
            if (withoutSign(wide, x) == 0 || x == infinite(wide)) {
                return x;
            }
            if (minus(wide, x)) {
                return none(wide);
            }
            long m = significand(wide, x);
            int q = power(wide, x) - missing(m);
            m <<= missing(m);
            if ((q & 1) != 0) {
                m <<= 1;
                q--;
            }
            long result = 0;
            long rest = 0;
            // Two bits of m * 2 ^ 58 for each bit of its root.
            for (int i = 0; i < 56; i++) {
                int at = 2 * (26 - i);
                rest = rest << 2 | (at >= 0 ? m >> at & 3 : 0);
                long trial = result << 2 | 1;
                result <<= 1;
                if (rest >= trial) {
                    rest -= trial;
                    result |= 1;
                }
            }
            return rounded(wide, false, rest == 0 ? result : result | 1, q / 2 - 29);
        }

        /** The result of an operator 167 .. 207. */
        static long convert(int op, long x) {
            switch (op) {
                case 168: case 169: case 170: case 171: return towardsZero(op - 168, x);
                case 172: case 196: return (int) x;
                case 173: return x & LOW;
                case 174: case 175: case 176: case 177: return towardsZero(op - 170, x);
                case 178: case 183: return fromWhole(op == 183, (int) x < 0, Math.abs((long) (int) x));
                case 179: case 184: return fromWhole(op == 184, false, x & LOW);
                case 180: case 185: return fromWhole(op == 185, x < 0, Math.abs(x));
                case 181: case 186: return fromWhole(op == 186, false, x);
                case 182: return refit(true, x);
                case 187: return refit(false, x & LOW);
                case 192: case 194: return (byte) x;
                case 193: case 195: return (short) x;
                case 200: case 201: case 202: case 203: case 204: case 205: case 206: case 207:
                    return towardsZero(op - 200, x);
                default: return x;
            }
        }

        /** m is without sign here, and may have its highest bit. */
        private static long fromWhole(boolean wide, boolean minus, long m) {
            if (m == 0) {
                return 0;
            }
            return m > 0 ? rounded(wide, minus, m, 0) : rounded(wide, minus, m >>> 1 | m & 1, 1);
        }

        private static long refit(boolean wide, long x) {
            if (isNone(wide, x)) {
                return none(!wide);
            }
            boolean minus = minus(wide, x);
            if (withoutSign(wide, x) == infinite(wide)) {
                return signed(!wide, minus, infinite(!wide));
            }
            long m = significand(wide, x);
            return m == 0 ? signed(!wide, minus, 0) : rounded(!wide, minus, m, power(wide, x));
        }

        /** The whole part of a number without its sign, if it has at most 64 bits. */
        private static long wholePart(boolean wide, long x) {
            int q = power(wide, x);
            if (q <= -64) {
                return 0;
            }
            return q >= 0 ? significand(wide, x) << q : significand(wide, x) >>> -q;
        }

        /**
         * Whether a number with that whole part is there in the type that it goes to. Of the eight k, bit 0 tells
         * those without sign, bit 1 those from type 3, bit 2 those to type 1.
         */
        private static int reach(int k, long x, long part) {
            boolean wide = (k & 2) != 0;
            if (isNone(wide, x)) {
                return NO_NUMBER;
            }
            int beyond = minus(wide, x) ? BELOW : ABOVE;
            int length = 64 - Long.numberOfLeadingZeros(significand(wide, x)) + power(wide, x);
            if (withoutSign(wide, x) == infinite(wide) || length > 64) {
                return beyond;
            }
            boolean large = k >= 4;
            if ((k & 1) != 0) {
                boolean there = part == 0 || beyond == ABOVE && (large || part >>> 32 == 0);
                return there ? FITS : beyond;
            }
            long bound = large ? Long.MIN_VALUE : 1L << 31;
            int order = Long.compareUnsigned(part, bound);
            return order < 0 || order == 0 && beyond == BELOW ? FITS : beyond;
        }

        private static long towardsZero(int k, long x) {
            boolean wide = (k & 2) != 0;
            boolean large = k >= 4;
            boolean withSign = (k & 1) == 0;
            long part = wholePart(wide, x);
            switch (reach(k, x, part)) {
                case NO_NUMBER: return 0;
                case BELOW: return !withSign ? 0 : large ? Long.MIN_VALUE : Integer.MIN_VALUE;
                case ABOVE: return !withSign ? -1 : large ? Long.MAX_VALUE : Integer.MAX_VALUE;
                default: return minus(wide, x) ? -part : part;
            }
        }
    }
}
