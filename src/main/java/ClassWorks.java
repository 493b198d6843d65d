import java.util.Arrays;

/**
 * Works for a machine of classes: the tape, three worlds, the stock of trials, and the calls of the face.
 * The document says what each call promises; numbers of rules and words in capitals are the document's.
 */
public final class ClassWorks {
    public static final int BAD = -1;
    public static final int NO = -2;
    public static final int FULL = -3;

    private static final int TAPE_MOST = 6000;
    private static final int WORLDS = 3;
    private static final int STEPS_OF_HOUSE = 60000;
    private static final int STEPS_OF_CALL = 4000;
    private static final int STEPS_OF_TRIAL = 300;
    private static final int THREADS = 3;
    private static final int QUANTUM_FIRST = 50;
    private static final int QUANTUM_MOST = 200;
    private static final int ALL_BREAKS = 255;
    private static final int SINGLE_BREAKS = 8;

    private static final int TRIALS_MOST = 40;
    private static final int TRIAL_BYTES = 1200;
    private static final int TRIAL_LINES = 60;
    // A text of 1200 bytes without a last 10 is kept with one.
    private static final int TRIAL_ROOM = 1204;
    private static final int RULES = 60;
    private static final int UNKNOWN = -1;

    private static final int LINE_END = 10;
    private static final int BLANK = 32;
    private static final int INT_MOST = Integer.MAX_VALUE;
    private static final int INT_LEAST = Integer.MIN_VALUE;

    // Names with a number from the beginning; a KIND is the number of its name.
    private static final int NUM = 0;
    private static final int ROW = 1;
    private static final int NULL = 2;
    private static final int UNSET = 3;
    private static final int UNMADE = 4;
    private static final int NONE = 5;
    private static final int ANY = 6;
    private static final int MAKE = 7;
    private static final int START = 8;
    private static final int FIRST_CLASS = 9;
    private static final int THING = 9;
    private static final int FAULT = 10;
    private static final int KEY_CLASS = 30;
    private static final int KEY_FIELD = 31;
    private static final int KEY_METHOD = 32;
    private static final int KEY_ROOM = 33;
    private static final int KEY_FRAME = 34;
    private static final int KEY_HANDLER = 35;
    private static final int KEY_END = 36;
    private static final int KEY_FINAL = 37;
    private static final int KEY_ABSTRACT = 38;
    private static final int KEY_FACE = 39;
    private static final int KEY_STATIC = 40;
    private static final int KEY_PRIVATE = 41;
    private static final int KEY_RUN = 42;
    private static final int NAMES_FIXED = 128;
    private static final String RESERVED = "num row null unset unmade none any <make> <start>";
    private static final String BUILT_IN = "Thing Fault";
    private static final String FAULTS =
        "NullFault ZeroFault PlaceFault SizeFault CastFault LockFault DeepFault RoomFault";
    private static final String LINK_FAULTS =
        "LinkFault ClassFault FieldFault MethodFault AccessFault KindFault RingFault CheckFault BodyFault MakeFault StartFault";
    private static final String KEYS =
        "class field method room frame handler end final abstract face static private run";
    private static final String PLAIN_WORDS =
        "nop num null nload rload nstore rstore inc add sub mul div rem neg and or xor shl shr pop dup dupx swap";
    private static final String BRANCH_WORDS =
        "jump if0 ifn0 ifl ifge ifg ifle eq ne lt ge gt le isnull notnull same other pick";
    private static final String OBJECT_WORDS =
        "new newrow get put size fget fput sget sput call special static facecall cast is throw done ndone rdone enter leave";

    // Operations, in the order of section 1.
    private static final int OP_NUM = 1;
    private static final int OP_NULL = 2;
    private static final int OP_NLOAD = 3;
    private static final int OP_RLOAD = 4;
    private static final int OP_NSTORE = 5;
    private static final int OP_RSTORE = 6;
    private static final int OP_INC = 7;
    private static final int OP_ADD = 8;
    private static final int OP_SUB = 9;
    private static final int OP_MUL = 10;
    private static final int OP_DIV = 11;
    private static final int OP_REM = 12;
    private static final int OP_NEG = 13;
    private static final int OP_AND = 14;
    private static final int OP_OR = 15;
    private static final int OP_XOR = 16;
    private static final int OP_SHL = 17;
    private static final int OP_SHR = 18;
    private static final int OP_POP = 19;
    private static final int OP_DUP = 20;
    private static final int OP_DUPX = 21;
    private static final int OP_SWAP = 22;
    private static final int OP_JUMP = 23;
    private static final int OP_IF0 = 24;
    private static final int OP_EQ = 30;
    private static final int OP_ISNULL = 36;
    private static final int OP_SAME = 38;
    private static final int OP_PICK = 40;
    private static final int OP_NEW = 41;
    private static final int OP_NEWROW = 42;
    private static final int OP_GET = 43;
    private static final int OP_PUT = 44;
    private static final int OP_SIZE = 45;
    private static final int OP_FGET = 46;
    private static final int OP_FPUT = 47;
    private static final int OP_SGET = 48;
    private static final int OP_SPUT = 49;
    private static final int OP_CALL = 50;
    private static final int OP_SPECIAL = 51;
    private static final int OP_STATIC = 52;
    private static final int OP_FACECALL = 53;
    private static final int OP_CAST = 54;
    private static final int OP_IS = 55;
    private static final int OP_THROW = 56;
    private static final int OP_DONE = 57;
    private static final int OP_NDONE = 58;
    private static final int OP_RDONE = 59;
    private static final int OP_ENTER = 60;
    private static final int OP_LEAVE = 61;
    private static final int OPS = 62;

    // What stands behind an operation: k number, i local, j local and number, L label, P pick, C class, F field, M method.
    private static final String FORMS = "-k-iiiij---------------LLLLLLLLLLLLLLLLLPC----FFFFMMMMCC------";
    // What is wanted of the stack, three signs an operation, the uppermost first: n num, w row, r reference,
    // s what rstore takes, a anything, f Fault, C the class told, T the type told, R what rdone takes.
    private static final String WANTS =
        "               n  s     nn nn nn nn nn n  nn nn nn nn nn a  a  aa aa    n  n  n  n  n  n  nn nn nn nn nn nn r  r  rr rr n     n  nw nnww  C  TC    T              r  r  f     n  R  r  r  ";
    // What comes on the stack: n num, z null, l the local's kind, N the new one, w row, T the type told, C the class told.
    private static final String COMES = "-nznl---nnnnnnnnnnn----------------------Nwn-nT-T-----Cn------";

    // Columns of a class.
    private static final int CLASS_NAME = 0;
    private static final int CLASS_FLAGS = 1;
    private static final int CLASS_PARENT = 2;
    private static final int CLASS_FACES = 3;
    private static final int CLASS_FACE0 = 4;
    private static final int CLASS_FIELD0 = 8;
    private static final int CLASS_FIELDS = 9;
    private static final int CLASS_METHOD0 = 10;
    private static final int CLASS_METHODS = 11;
    private static final int CLASS_LINKED = 12;
    private static final int CLASS_STATE = 13;
    private static final int CLASS_THREAD = 14;
    private static final int CLASS_SLOTS = 15;
    // Where the faces above it stand in orders, how many, and how many of them are so without the parent's.
    private static final int CLASS_ORDER0 = 16;
    private static final int CLASS_ORDERS = 17;
    private static final int CLASS_OWN_FACES = 18;
    private static final int CLASS_WIDTH = 19;
    private static final int BUILT_INS = 21;
    private static final int CLASSES_MOST = 51;
    private static final int FACES_MOST = 4;
    private static final int FIELDS_MOST = 8;
    private static final int METHODS_MOST = 12;
    private static final int ARGUMENTS_MOST = 6;
    private static final int CODES_MOST = 80;
    private static final int HANDLERS_MOST = 8;
    private static final int PART_MOST = 20;
    private static final int WELL_LINKED = 1;
    private static final int STATE_NEW = 0;
    private static final int STATE_GOES_ON = 1;
    private static final int STATE_STARTED = 2;
    private static final int STATE_FAILED = 3;

    // Columns of a field, of a method, of an instruction, of a handler.
    private static final int FIELD_NAME = 0;
    private static final int FIELD_TYPE = 1;
    private static final int FIELD_FLAGS = 2;
    private static final int FIELD_TOLD = 3;
    private static final int FIELD_NUMBER = 4;
    private static final int FIELD_SLOT = 5;
    private static final int FIELD_VALUE = 6;
    private static final int FIELD_WIDTH = 7;
    private static final int METHOD_SIGN = 0;
    private static final int METHOD_FLAGS = 1;
    private static final int METHOD_STACK = 2;
    private static final int METHOD_LOCALS = 3;
    private static final int METHOD_CODE0 = 4;
    private static final int METHOD_CODES = 5;
    private static final int METHOD_HANDLER0 = 6;
    private static final int METHOD_HANDLERS = 7;
    private static final int METHOD_WIDTH = 8;
    private static final int CODE_A = 1;
    private static final int CODE_B = 2;
    private static final int CODE_C = 3;
    private static final int CODE_FRAME = 4;
    private static final int CODE_WIDTH = 5;
    private static final int HANDLER_TO = 1;
    private static final int HANDLER_GOAL = 2;
    private static final int HANDLER_CLASS = 3;
    private static final int HANDLER_WIDTH = 4;

    // FLAGS of classes, and of fields and methods.
    private static final int FINAL_CLASS = 1;
    private static final int ABSTRACT_CLASS = 2;
    private static final int FACE_CLASS = 4;
    private static final int STATIC = 1;
    private static final int FINAL = 2;
    private static final int PRIVATE = 4;
    private static final int ABSTRACT = 8;

    // Faults of the machine: 100 times the rule (0 where none is told), and the class.
    private static final int NULL_FAULT = 2;
    private static final int ZERO_FAULT = 3;
    private static final int PLACE_FAULT = 4;
    private static final int SIZE_FAULT = 5;
    private static final int CAST_FAULT = 6;
    private static final int LOCK_FAULT = 7;
    private static final int DEEP_FAULT = 8;
    private static final int ROOM_FAULT = 9;
    private static final int LINK_FAULT = 10;
    private static final int CLASS_FAULT = 11;
    private static final int CHECK_FAULT = 17;
    private static final int START_FAULT = 20;
    private static final int RULE20 = 2011;
    private static final int RULE21 = 2115;
    private static final int RULE22 = 2211;
    private static final int RULE23 = 2315;
    private static final int RULE24 = 2416;
    private static final int RULE25 = 2515;
    private static final int RULE50 = 5011;
    private static final int RULE51 = 5112;
    private static final int RULE52 = 5213;
    private static final int RULE53 = 5314;
    private static final int RULE54 = 5414;
    private static final int RULE55 = 5515;
    private static final int RULE56 = 5615;
    private static final int RULE57 = 5719;
    private static final int RULE58 = 5818;
    private static final int RULE59 = 5915;
    private static final int LINK_FIRST = -1;
    private static final int THROWN = -2;
    private static final int NO_METHOD = -1;
    private static final int ANYONE = -2;

    // A place on the stack, in a local: a number, or a reference (its bit, and what it refers to).
    private static final long REFERENCE = 1L << 32;
    private static final long NUMBER_BITS = (1L << 32) - 1;
    private static final int FRAMES_MOST = 40;
    private static final int FRAME_PLACES = 40;
    private static final int OBJECTS_MOST = 800;
    private static final int ELEMENTS_MOST = 4000;
    private static final int ROW_MOST = 300;
    // References above this are faults that the machine made: they have no number.
    private static final int NUMBERLESS = 1000;
    private static final int TRACE_MOST = 400;
    private static final int TRACE_WIDTH = 5;
    private static final int TURNS_MOST = 10000000;
    private static final int ROUNDS_MOST = 100;

    private final Words words;
    private final Reader reader;
    private final Checker checker;
    private final Finder finder;
    private final Writer writer;
    // The worlds 0 .. 2, and behind them one for the trials.
    private final Machine[] machines = new Machine[WORLDS + 1];
    private final byte[] tape = new byte[TAPE_MOST];
    private int tapeSize = 0;
    private int refusedAt = NO;
    private int stepsLeft = STEPS_OF_HOUSE;
    private final byte[] stock = new byte[TRIALS_MOST * TRIAL_ROOM];
    private final int[] sizes = new int[TRIALS_MOST];
    private final int[] met = new int[TRIALS_MOST];
    private final int[] found = new int[TRIALS_MOST];
    private int trials = 0;
    private final byte[] draft = new byte[2 * TRIAL_ROOM];
    private int outcomeKind = 0;
    private int outcomeNumber = 0;
    private int[] fewestFor = new int[ALL_BREAKS + 1];
    private int[] fewestNext = new int[ALL_BREAKS + 1];

    public ClassWorks() {
        Names names = new Names();
        words = new Words(names);
        reader = new Reader(names, words);
        checker = new Checker(names);
        finder = new Finder(names, checker);
        writer = new Writer(names);
        for (int i = 0; i <= WORLDS; i++) {
            machines[i] = new Machine(new World(names), finder, names);
        }
    }

    // ---- the tape

    public int feed(int a, int b, int c, int d, int e) {
        if (tapeSize + 20 > TAPE_MOST) {
            return FULL;
        }
        feedOne(a);
        feedOne(b);
        feedOne(c);
        feedOne(d);
        feedOne(e);
        return tapeSize;
    }

    private void feedOne(int four) {
        for (int shift = 24; shift >= 0 && tapeSize < TAPE_MOST; shift -= 8) {
            tape[tapeSize] = (byte) (four >> shift);
            tapeSize++;
        }
    }

    public int cut(int n) {
        if (n < 0 || n > tapeSize) {
            return BAD;
        }
        tapeSize -= n;
        return tapeSize;
    }

    // ---- worlds

    public int world(int breaks) {
        if ((breaks & ~ALL_BREAKS) != 0) {
            return BAD;
        }
        for (int i = 0; i < WORLDS; i++) {
            if (!machines[i].world.used) {
                machines[i].restart(breaks);
                machines[i].world.used = true;
                return i;
            }
        }
        return FULL;
    }

    private Machine machine(int world) {
        if (world < 0 || world >= WORLDS || !machines[world].world.used) {
            return null;
        }
        return machines[world];
    }

    private World worldOf(int world) {
        Machine m = machine(world);
        return m == null ? null : m.world;
    }

    /** The world, if it is there and has this class, else null. */
    private World worldWith(int world, int c) {
        World w = worldOf(world);
        return w == null || c < 0 || c >= w.count ? null : w;
    }

    public int drop(int world) {
        World w = worldOf(world);
        if (w == null) {
            return BAD;
        }
        w.used = false;
        return w.count - BUILT_INS;
    }

    public int define(int world) {
        World w = worldOf(world);
        if (w == null) {
            return BAD;
        }
        int rule = reader.read(w, tape, 0, tapeSize);
        tapeSize = 0;
        refusedAt = rule == 0 ? NO : reader.spot;
        return rule == 0 ? reader.came : -10 - rule;
    }

    public int place() {
        return refusedAt;
    }

    public int classes(int world) {
        World w = worldOf(world);
        return w == null ? BAD : w.count - BUILT_INS;
    }

    public int told(int world, int c, int what) {
        World w = worldWith(world, c);
        if (w == null) {
            return BAD;
        }
        switch (what) {
            case 0:
                return toldParent(w, c);
            case 1:
                return w.of(c, CLASS_FACES);
            case 2:
                return w.of(c, CLASS_FIELDS);
            case 3:
                return w.of(c, CLASS_METHODS);
            case 4:
                return w.of(c, CLASS_FLAGS);
            case 5:
                return w.of(c, CLASS_STATE);
            case 6:
                return w.of(c, CLASS_LINKED);
            default:
                return BAD;
        }
    }

    private int toldParent(World w, int c) {
        int parent = w.toldParent(c);
        return parent < 0 ? NO : parent;
    }

    public int name(int world, int c, int kind, int k, int i) {
        World w = worldWith(world, c);
        if (w == null || kind < 0 || kind > 1 || k < -1) {
            return BAD;
        }
        if (k == -1) {
            return w.names.letter(w.of(c, CLASS_NAME), i);
        }
        if (kind == 0) {
            return k >= w.of(c, CLASS_FIELDS) ? BAD : w.names.letter(w.field(c, k, FIELD_NAME), i);
        }
        if (k >= w.of(c, CLASS_METHODS)) {
            return BAD;
        }
        return w.names.letter(w.names.nameOf(w.method(c, k, METHOD_SIGN)), i);
    }

    public int member(int world, int c, int k, int what) {
        World w = worldWith(world, c);
        if (w == null || k < 0 || what < 0 || what > 6) {
            return BAD;
        }
        if (k >= w.of(c, what < 5 ? CLASS_METHODS : CLASS_FIELDS)) {
            return BAD;
        }
        switch (what) {
            case 0:
                return w.method(c, k, METHOD_FLAGS);
            case 1:
                return w.names.argumentsOf(w.method(c, k, METHOD_SIGN));
            case 2:
                return w.method(c, k, METHOD_STACK);
            case 3:
                return w.method(c, k, METHOD_LOCALS);
            case 4:
                return w.method(c, k, METHOD_CODES);
            case 5:
                return w.field(c, k, FIELD_FLAGS);
            default:
                return Math.min(w.field(c, k, FIELD_TYPE), 2);
        }
    }

    public int link(int world, int c) {
        World w = worldWith(world, c);
        return w == null ? BAD : finder.settle(w, c);
    }

    public int checked(int world, int what) {
        World w = worldOf(world);
        if (w == null || what < 0 || what > 2) {
            return BAD;
        }
        return what == 0 ? w.wrongClass : what == 1 ? w.wrongMethod : w.wrongAt;
    }

    // ---- runs

    public int call(int world, int thread) {
        Machine m = machine(world);
        if (m == null || thread < 0 || thread >= THREADS) {
            return BAD;
        }
        Runner r = m.runs[thread];
        if (r.on()) {
            return NO;
        }
        boolean good = takeLine(r, true);
        r.clear();
        if (!good) {
            return -11;
        }
        r.begin();
        return 0;
    }

    /** The TAPE is taken as one line with words: a CALL, or an M. */
    private boolean takeLine(Runner r, boolean isCall) {
        boolean good = reader.readLine(tape, tapeSize, r, isCall);
        tapeSize = 0;
        refusedAt = good ? NO : reader.spot;
        return good;
    }

    public int quantum(int world, int q) {
        Machine m = machine(world);
        if (m == null || q < 1 || q > QUANTUM_MOST) {
            return BAD;
        }
        int was = m.quantum;
        m.quantum = q;
        return was;
    }

    public int halt(int world) {
        Machine m = machine(world);
        return m == null ? BAD : m.stopAll();
    }

    public int step(int world, int n) {
        Machine m = machine(world);
        if (m == null || n < 1 || n > STEPS_OF_CALL) {
            return BAD;
        }
        if (!m.anyRun()) {
            return NO;
        }
        if (m.howManyOn() > 0 && stepsLeft < n) {
            return FULL;
        }
        int how = m.go(n);
        stepsLeft -= m.stepsDone;
        return how;
    }

    public int run(int world, int thread, int what) {
        Machine m = machine(world);
        if (m == null || thread < 0 || thread >= THREADS || what < 0 || what > 13) {
            return BAD;
        }
        if (what >= 10) {
            return ofWorld(m, what);
        }
        return what == 0 ? m.stateOf(thread) : ofThread(m.runs[thread], what);
    }

    private int ofWorld(Machine m, int what) {
        switch (what) {
            case 10:
                return m.heap.objects;
            case 11:
                return m.heap.top;
            case 12:
                return m.startedCount;
            default:
                return m.present;
        }
    }

    private int ofThread(Runner r, int what) {
        int top = r.frames - 1;
        switch (what) {
            case 1:
                return r.steps;
            case 2:
                return r.endKind;
            case 3:
                return r.endNumber;
            case 4:
                return r.endClass;
            case 5:
                return r.endRule;
            case 6:
                return r.frames;
            case 7:
                return top < 0 ? NO : r.classOf[top];
            case 8:
                return top < 0 ? NO : r.methodOf[top];
            default:
                return top < 0 ? NO : r.at[top];
        }
    }

    public int started(int world, int i) {
        Machine m = machine(world);
        return m == null || i < 0 || i >= m.startedCount ? BAD : m.startedList[i];
    }

    public int value(int world, int thread, boolean stack, int i) {
        Machine m = machine(world);
        if (m == null || thread < 0 || thread >= THREADS || m.runs[thread].frames == 0 || i < 0) {
            return BAD;
        }
        Runner r = m.runs[thread];
        int top = r.frames - 1;
        if (stack) {
            return i >= r.depth[top] ? BAD : tell(r.fromTop(i));
        }
        int locals = m.world.method(r.classOf[top], r.methodOf[top], METHOD_LOCALS);
        return i >= locals ? BAD : tell(r.local(i));
    }

    private int tell(long place) {
        int number = (int) place;
        return (place & REFERENCE) != 0 ? tellReference(number) : number;
    }

    private int tellReference(int reference) {
        return reference > NUMBERLESS ? 0 : reference;
    }

    public int fixed(int world, int c, int k) {
        World w = worldWith(world, c);
        if (w == null || k < 0 || k >= w.of(c, CLASS_FIELDS) || (w.field(c, k, FIELD_FLAGS) & STATIC) == 0) {
            return BAD;
        }
        int value = w.field(c, k, FIELD_VALUE);
        return w.field(c, k, FIELD_TYPE) == NUM ? value : tellReference(value);
    }

    public int object(int world, int r, int i) {
        Machine m = machine(world);
        if (m == null || !m.heap.there(r) || i < -3 || i >= m.heap.length[r]) {
            return BAD;
        }
        Heap h = m.heap;
        switch (i) {
            case -1:
                return h.kind[r] == Heap.ROW_KIND ? NO : h.kind[r];
            case -2:
                return h.locks(r);
            case -3:
                return h.length[r];
            default:
                int value = h.data[h.base[r] + i];
                return m.slotIsNumber(r, i) ? value : tellReference(value);
        }
    }

    // ---- what is told of classes

    public int print(int world, int c) {
        World w = worldWith(world, c);
        return w == null || c < BUILT_INS ? BAD : writer.write(w, c);
    }

    public int written(int i) {
        return i < 0 || i >= writer.out.size ? BAD : writer.out.row[i];
    }

    public int kinds(int world, int c, int m, boolean inferred) {
        World w = worldWith(world, c);
        if (w == null || m < 0 || m >= w.of(c, CLASS_METHODS) || !w.hasBody(c, m)) {
            return BAD;
        }
        int rule = inferred ? checker.infer(w, c, m) : checker.check(w, c, m, m + 1, true);
        checker.tellNumbers();
        return rule == 0 ? 0 : 1000 * rule + checker.spot;
    }

    public int kind(int i, int k) {
        return checker.toldKind(i, k);
    }

    public int foretell(int world, int c, int i, int what) {
        World w = worldWith(world, c);
        if (w == null || i < 0 || what < 0 || what > 2) {
            return BAD;
        }
        int seen = 0;
        for (int m = 0; m < w.of(c, CLASS_METHODS); m++) {
            for (int at = 0; at < w.method(c, m, METHOD_CODES); at++) {
                int fault = finder.findNow(w, c, m, at);
                if (fault != 0 && seen == i) {
                    return what == 0 ? m : what == 1 ? at : fault / 100;
                }
                seen += fault == 0 ? 0 : 1;
            }
        }
        return NO;
    }

    public int asked(int world, int k) {
        World w = worldWith(world, k);
        if (w == null) {
            return BAD;
        }
        Runner line = machines[WORLDS].runs[0];
        if (!takeLine(line, false)) {
            return -11;
        }
        int fault = finder.ask(w, line.callClass, line.callSign, k);
        return fault != 0 ? -100 - fault / 100 : 100 * finder.cls + finder.member;
    }

    public int trace(int world, int i, int what) {
        Machine m = machine(world);
        if (m == null || i < 0 || what < 0 || what >= TRACE_WIDTH) {
            return BAD;
        }
        return i >= m.traceCount ? NO : m.traceRow[i * TRACE_WIDTH + what];
    }

    public int done(int world, int op) {
        Machine m = machine(world);
        return m == null || op < 0 || op >= OPS ? BAD : m.counts[op];
    }

    public int collect(int world) {
        Machine m = machine(world);
        return m == null ? BAD : m.sweep();
    }

    public int differ(int world, int c, int other, int d, int what) {
        World a = worldWith(world, c);
        World b = worldWith(other, d);
        if (a == null || b == null || what < 0 || what > 3) {
            return BAD;
        }
        switch (what) {
            case 0:
                return writer.sameHead(a, c, b, d) ? 0 : 1;
            case 1:
                return writer.fieldsAlone(a, c, b, d);
            case 2:
                return writer.methodsAlone(a, c, b, d);
            default:
                return writer.methodsOther(a, c, b, d);
        }
    }

    public int reach(int world, int c, int m) {
        World w = worldWith(world, c);
        if (w == null || m < 0 || m >= w.of(c, CLASS_METHODS)) {
            return BAD;
        }
        return finder.reachFrom(w, c, m);
    }

    public int reached(int i) {
        return i < 0 || i >= finder.reachList.size ? NO : finder.reachList.row[i];
    }

    // ---- trials

    public int trial() {
        int lines = 0;
        int last = 0;
        for (int p = 0; p < tapeSize; p = words.after) {
            if (words.load(tape, p, tapeSize)) {
                lines++;
                last = p;
            }
        }
        if (trials == TRIALS_MOST || tapeSize > TRIAL_BYTES || lines > TRIAL_LINES) {
            return FULL;
        }
        int size = tapeSize;
        tapeSize = 0;
        if (lines == 0) {
            refusedAt = size;
            return -11;
        }
        words.load(tape, last, size);
        boolean good = reader.callLine(machines[WORLDS].runs[0], true);
        refusedAt = good ? NO : reader.spot;
        return good ? keepTape(size) : -11;
    }

    /** The tape's lines with words are a trial more. */
    private int keepTape(int size) {
        int kept = 0;
        for (int p = 0; p < size; p = words.after) {
            if (words.load(tape, p, size)) {
                kept = keepLine(tape, p, size, kept);
            }
        }
        return keepDraft(kept);
    }

    /** The line at p comes behind what the draft has, with a 10: how many bytes that has then. */
    private int keepLine(byte[] text, int p, int end, int kept) {
        int to = kept;
        for (int i = p; i < end && text[i] != LINE_END && to < draft.length - 1; i++) {
            draft[to] = text[i];
            to++;
        }
        if (to < draft.length) {
            draft[to] = LINE_END;
            to++;
        }
        return to;
    }

    private int keepDraft(int size) {
        System.arraycopy(draft, 0, stock, trials * TRIAL_ROOM, size);
        sizes[trials] = size;
        met[trials] = UNKNOWN;
        found[trials] = UNKNOWN;
        trials++;
        return trials - 1;
    }

    private boolean isTrial(int trial) {
        return trial >= 0 && trial < trials;
    }

    private int lineCount(int trial) {
        int lines = 0;
        int from = trial * TRIAL_ROOM;
        for (int i = from; i < from + sizes[trial]; i++) {
            if (stock[i] == LINE_END) {
                lines++;
            }
        }
        return lines;
    }

    /** Where line i of a trial begins in the stock; its end, if it has just i lines. */
    private int lineStart(int trial, int i) {
        int p = trial * TRIAL_ROOM;
        int end = p + sizes[trial];
        for (int line = 0; line < i && p < end; p++) {
            if (stock[p] == LINE_END) {
                line++;
            }
        }
        return p;
    }

    /** The outcome of a text of lines, the last one with run: kind and number. */
    private void judge(byte[] text, int from, int to, int breaks) {
        Machine m = machines[WORLDS];
        m.restart(breaks);
        int last = to - 1;
        while (last > from && text[last - 1] != LINE_END) {
            last--;
        }
        int rule = reader.read(m.world, text, from, last);
        outcomeKind = 1;
        outcomeNumber = rule;
        if (rule != 0) {
            return;
        }
        Runner r = m.runs[0];
        words.load(text, last, to);
        reader.callLine(r, true);
        r.begin();
        m.go(STEPS_OF_TRIAL);
        tellOutcome(r);
    }

    private void tellOutcome(Runner r) {
        if (r.on()) {
            outcomeKind = 5;
            outcomeNumber = 0;
        } else if (r.mode == Runner.LOST) {
            outcomeKind = 4;
            outcomeNumber = 100 * r.endRule + (r.endClass < BUILT_INS ? r.endClass : 99);
        } else if (r.endKind == 1) {
            outcomeKind = 2;
            outcomeNumber = r.endNumber;
        } else {
            outcomeKind = 3;
            outcomeNumber = Math.max(r.endKind - 2, 0);
        }
    }

    private void judgeTrial(int trial, int breaks) {
        judge(stock, trial * TRIAL_ROOM, trial * TRIAL_ROOM + sizes[trial], breaks);
    }

    public int outcome(int trial, int breaks, int what) {
        if (!isTrial(trial) || (breaks & ~ALL_BREAKS) != 0 || what < 0 || what > 1) {
            return BAD;
        }
        judgeTrial(trial, breaks);
        return what == 0 ? outcomeKind : outcomeNumber;
    }

    public int meets(int trial) {
        if (!isTrial(trial)) {
            return BAD;
        }
        survey(trial, false);
        return met[trial];
    }

    /** The rule that a trial meets is known then, and with the breaks the single ones that it finds, as bits. */
    private void survey(int trial, boolean withBreaks) {
        int from = trial * TRIAL_ROOM;
        if (met[trial] == UNKNOWN || (withBreaks && found[trial] == UNKNOWN)) {
            judge(stock, from, from + sizes[trial], 0);
            int kind = outcomeKind;
            int number = outcomeNumber;
            met[trial] = kind == 1 ? number : kind == 4 ? number / 100 : 0;
            int bits = 0;
            for (int b = 0; b < SINGLE_BREAKS && withBreaks; b++) {
                judge(stock, from, from + sizes[trial], 1 << b);
                bits |= kind != outcomeKind || number != outcomeNumber ? 1 << b : 0;
            }
            found[trial] = withBreaks ? bits : found[trial];
        }
    }

    public int finds(int trial, int breaks) {
        if (!isTrial(trial) || (breaks & ~ALL_BREAKS) != 0) {
            return BAD;
        }
        judgeTrial(trial, 0);
        int kind = outcomeKind;
        int number = outcomeNumber;
        judgeTrial(trial, breaks);
        return kind != outcomeKind || number != outcomeNumber ? 1 : 0;
    }

    private static boolean isRule(int rule) {
        return (rule >= 1 && rule <= 14) || (rule >= 20 && rule <= 25) || (rule >= 30 && rule <= 43)
            || (rule >= 50 && rule <= 59);
    }

    private boolean isMet(int rule) {
        for (int t = 0; t < trials; t++) {
            if (met[t] == rule) {
                return true;
            }
        }
        return false;
    }

    public int hole(int i) {
        if (i < 0) {
            return BAD;
        }
        for (int t = 0; t < trials; t++) {
            survey(t, false);
        }
        int seen = 0;
        for (int rule = 1; rule < RULES; rule++) {
            if (isRule(rule) && !isMet(rule)) {
                if (seen == i) {
                    return rule;
                }
                seen++;
            }
        }
        return NO;
    }

    public int least() {
        for (int t = 0; t < trials; t++) {
            survey(t, true);
        }
        for (int t = trials - 1; t >= 0; t--) {
            if (othersDo(t)) {
                remove(t);
            }
        }
        return trials;
    }

    /** Whether the other trials meet the rule and find the breaks that this one does. */
    private boolean othersDo(int trial) {
        int rule = met[trial];
        int bits = found[trial];
        boolean ruled = rule == 0;
        for (int t = 0; t < trials; t++) {
            if (t != trial) {
                ruled = ruled || met[t] == rule;
                bits &= ~found[t];
            }
        }
        return ruled && bits == 0;
    }

    private void remove(int trial) {
        for (int t = trial; t < trials - 1; t++) {
            System.arraycopy(stock, (t + 1) * TRIAL_ROOM, stock, t * TRIAL_ROOM, sizes[t + 1]);
            sizes[t] = sizes[t + 1];
            met[t] = met[t + 1];
            found[t] = found[t + 1];
        }
        trials--;
    }

    public int fewest() {
        for (int t = 0; t < trials; t++) {
            survey(t, true);
        }
        Arrays.fill(fewestFor, TRIALS_MOST + 1);
        fewestFor[0] = 0;
        int all = 0;
        for (int rule = 1; rule < RULES; rule++) {
            if (isMet(rule)) {
                takeOneOf(rule);
            }
        }
        for (int t = 0; t < trials; t++) {
            all |= found[t];
            takeMore(found[t], fewestFor);
        }
        return fewestFor[all];
    }

    /** Of the trials that meet this rule one at least is taken. */
    private void takeOneOf(int rule) {
        Arrays.fill(fewestNext, TRIALS_MOST + 1);
        for (int t = 0; t < trials; t++) {
            if (met[t] == rule) {
                takeMore(found[t], fewestNext);
            }
        }
        int[] was = fewestFor;
        fewestFor = fewestNext;
        fewestNext = was;
    }

    /** What is found with one trial more, by these breaks, comes into a row. */
    private void takeMore(int bits, int[] into) {
        for (int have = 0; have <= ALL_BREAKS; have++) {
            int with = have | bits;
            into[with] = Math.min(into[with], fewestFor[have] + 1);
        }
    }

    public int shrink(int trial, int breaks) {
        if (!isTrial(trial) || (breaks & ~ALL_BREAKS) != 0) {
            return BAD;
        }
        judgeTrial(trial, 0);
        int kind = outcomeKind;
        int number = outcomeNumber;
        judgeTrial(trial, breaks);
        int kindBroken = outcomeKind;
        int numberBroken = outcomeNumber;
        for (int i = lineCount(trial) - 2; i >= 0; i--) {
            int size = draftWithout(trial, i);
            judge(draft, 0, size, 0);
            if (outcomeKind == kind && outcomeNumber == number) {
                judge(draft, 0, size, breaks);
                if (outcomeKind == kindBroken && outcomeNumber == numberBroken) {
                    System.arraycopy(draft, 0, stock, trial * TRIAL_ROOM, size);
                    sizes[trial] = size;
                }
            }
        }
        found[trial] = UNKNOWN;
        return lineCount(trial);
    }

    private int draftWithout(int trial, int line) {
        int from = trial * TRIAL_ROOM;
        int cut = lineStart(trial, line);
        int behind = lineStart(trial, line + 1);
        int end = from + sizes[trial];
        System.arraycopy(stock, from, draft, 0, cut - from);
        System.arraycopy(stock, behind, draft, cut - from, end - behind);
        return cut - from + end - behind;
    }

    public int change(int trial, int way, int i, int j) {
        if (!isTrial(trial) || way < 0 || way > 3) {
            return BAD;
        }
        int lines = lineCount(trial);
        if (i < 0 || i >= lines - 1 || (way > 1 && (j < 0 || j >= lines - 1))) {
            return BAD;
        }
        int size = 0;
        for (int line = 0; line < lines; line++) {
            size = draftChanged(trial, way, line, i, j, size);
        }
        boolean manyLines = way == 1 && lines == TRIAL_LINES;
        if (trials == TRIALS_MOST || size > TRIAL_BYTES || manyLines) {
            return FULL;
        }
        return keepDraft(size);
    }

    /** What stands for one line of a trial when it is changed comes behind the draft. */
    private int draftChanged(int trial, int way, int line, int i, int j, int size) {
        int from = line;
        if (line == i) {
            if (way == 0) {
                return size;
            }
            from = way == 1 ? i : j;
        } else if (way == 2 && line == j) {
            from = i;
        }
        int kept = keepLine(stock, lineStart(trial, from), stock.length, size);
        if (way == 1 && line == i) {
            kept = keepLine(stock, lineStart(trial, from), stock.length, kept);
        }
        return kept;
    }

    public int text(int trial, int i) {
        if (!isTrial(trial) || i < 0 || i >= sizes[trial]) {
            return BAD;
        }
        return stock[trial * TRIAL_ROOM + i] & 255;
    }

    public int count(int what) {
        switch (what) {
            case 0:
                return trials;
            case 1:
                return stepsLeft;
            case 2:
                return tapeSize;
            default:
                return BAD;
        }
    }

    /** A row of numbers that grows. */
    static final class Ints {
        int[] row;
        int size = 0;

        Ints(int room) {
            row = new int[room];
        }

        int add(int v) {
            if (size == row.length) {
                row = Arrays.copyOf(row, 2 * size + 8);
            }
            row[size] = v;
            size++;
            return size - 1;
        }

        void put(int i, int v) {
            if (i >= 0 && i < size) {
                row[i] = v;
            }
        }
    }

    /** Numbers for names, and for signs of methods (a NAME, types and a result), the same in all worlds. */
    static final class Names {
        private static final int HEADS = 256;
        private final Ints letters = new Ints(2048);
        private final Ints start = new Ints(256);
        private final Ints size = new Ints(256);
        private final Ints next = new Ints(256);
        private final int[] head = new int[HEADS];
        // A sign's number is where it begins here: the next one of its head, name, result, how many types, types.
        private final Ints signs = new Ints(512);
        private final int[] signHead = new int[HEADS];
        private final int[] operationOf = new int[NAMES_FIXED];
        private final byte[] word = new byte[NAMES_FIXED];
        final int makeSign;
        final int startSign;

        Names() {
            Arrays.fill(head, -1);
            Arrays.fill(signHead, -1);
            Arrays.fill(operationOf, -1);
            learn(RESERVED, -1);
            learn(BUILT_IN, -1);
            learn(FAULTS, -1);
            learn(LINK_FAULTS, -1);
            learn(KEYS, -1);
            learn(PLAIN_WORDS, 0);
            learn(BRANCH_WORDS, OP_JUMP);
            learn(OBJECT_WORDS, OP_NEW);
            int[] none = new int[1];
            makeSign = sign(MAKE, 0, none, NONE);
            startSign = sign(START, 0, none, NONE);
        }

        /** The words of a row of them have numbers; those of operations tell these from one on. */
        private void learn(String row, int operation) {
            int op = operation;
            int n = 0;
            for (int i = 0; i <= row.length(); i++) {
                if (i < row.length() && row.charAt(i) != ' ') {
                    word[n] = (byte) row.charAt(i);
                    n++;
                } else {
                    int id = number(word, 0, n);
                    if (op >= 0 && id < NAMES_FIXED) {
                        operationOf[id] = op;
                        op++;
                    }
                    n = 0;
                }
            }
        }

        int number(byte[] text, int from, int n) {
            int hash = n;
            for (int i = from; i < from + n; i++) {
                hash = hash * 31 + text[i];
            }
            hash = (hash ^ (hash >>> 8)) & (HEADS - 1);
            for (int id = head[hash]; id >= 0; id = next.row[id]) {
                if (isSame(id, text, from, n)) {
                    return id;
                }
            }
            start.add(letters.size);
            size.add(n);
            next.add(head[hash]);
            head[hash] = next.size - 1;
            for (int i = from; i < from + n; i++) {
                letters.add(text[i]);
            }
            return next.size - 1;
        }

        private boolean isSame(int id, byte[] text, int from, int n) {
            int at = start.row[id];
            if (size.row[id] != n) {
                return false;
            }
            for (int i = 0; i < n; i++) {
                if (letters.row[at + i] != text[from + i]) {
                    return false;
                }
            }
            return true;
        }

        int length(int id) {
            return size.row[id];
        }

        int letter(int id, int i) {
            return i < 0 || i >= length(id) ? BAD : letters.row[start.row[id] + i];
        }

        int operation(int id) {
            return id < NAMES_FIXED ? operationOf[id] : -1;
        }

        int sign(int name, int n, int[] types, int result) {
            int hash = name * 31 + result;
            for (int i = 0; i < n; i++) {
                hash = hash * 31 + types[i];
            }
            hash = (hash ^ (hash >>> 8)) & (HEADS - 1);
            for (int s = signHead[hash]; s >= 0; s = signs.row[s]) {
                if (isSameSign(s, name, n, types, result)) {
                    return s;
                }
            }
            int s = signs.add(signHead[hash]);
            signHead[hash] = s;
            signs.add(name);
            signs.add(result);
            signs.add(n);
            for (int i = 0; i < n; i++) {
                signs.add(types[i]);
            }
            return s;
        }

        private boolean isSameSign(int s, int name, int n, int[] types, int result) {
            if (signs.row[s + 1] != name || signs.row[s + 2] != result || signs.row[s + 3] != n) {
                return false;
            }
            for (int i = 0; i < n; i++) {
                if (signs.row[s + 4 + i] != types[i]) {
                    return false;
                }
            }
            return true;
        }

        int nameOf(int sign) {
            return signs.row[sign + 1];
        }

        int resultOf(int sign) {
            return signs.row[sign + 2];
        }

        int argumentsOf(int sign) {
            return signs.row[sign + 3];
        }

        int typeOf(int sign, int i) {
            return signs.row[sign + 4 + i];
        }
    }

    /** The words of one line. */
    static final class Words {
        static final int END = 0;
        static final int NAME = 1;
        static final int NUMBER = 2;
        static final int SIGN = 3;
        // <make> and <start>
        static final int MARK = 4;
        // a byte that begins no word
        static final int NO_WORD = 5;
        private static final int NAME_LONGEST = 12;
        private static final int DIGITS_MOST = 10;
        final int[] kind = new int[TAPE_MOST + 2];
        final int[] value = new int[TAPE_MOST + 2];
        final int[] at = new int[TAPE_MOST + 2];
        int after = 0;
        private final Names names;
        private int count = 0;
        private byte[] text;
        private int end = 0;

        Words(Names n) {
            names = n;
            text = new byte[1];
        }

        /** The line that begins there is looked at, the next one begins at after: whether it has words. */
        boolean load(byte[] bytes, int from, int to) {
            text = bytes;
            end = from;
            while (end < to && text[end] != LINE_END) {
                end++;
            }
            after = end + 1;
            count = 0;
            int p = from;
            while (p < end && text[p] != '#') {
                p = text[p] == BLANK ? p + 1 : word(p);
            }
            add(END, 0, end);
            return kind[0] != END;
        }

        private void add(int k, int v, int place) {
            kind[count] = k;
            value[count] = v;
            at[count] = place;
            count++;
        }

        /** The word at p: where it ends. Behind a byte that begins none nothing more is looked at. */
        private int word(int p) {
            int c = text[p];
            int to = p + 1;
            if (isLetter(c)) {
                to = nameEnd(p);
            } else if (isDigit(c) || c == '-') {
                to = numberEnd(p);
            } else if (c == '<') {
                to = markEnd(p);
            } else if (isSign(c)) {
                add(SIGN, c, p);
            } else {
                to = -1;
            }
            if (to < 0) {
                add(NO_WORD, 0, p);
                return end;
            }
            return to;
        }

        private int nameEnd(int p) {
            int to = p;
            while (to < end && (isLetter(text[to]) || isDigit(text[to]))) {
                to++;
            }
            if (to - p > NAME_LONGEST) {
                return -1;
            }
            add(NAME, names.number(text, p, to - p), p);
            return to;
        }

        private int numberEnd(int p) {
            boolean below = text[p] == '-';
            int first = below ? p + 1 : p;
            int to = first;
            long number = 0;
            while (to < end && isDigit(text[to])) {
                number = to - first < DIGITS_MOST ? number * 10 + (text[to] - '0') : number;
                to++;
            }
            number = below ? -number : number;
            if (to == first || to - first > DIGITS_MOST || number < INT_LEAST || number > INT_MOST) {
                return -1;
            }
            add(NUMBER, (int) number, p);
            return to;
        }

        private int markEnd(int p) {
            int to = p + 1;
            while (to < end && text[to] >= 'a' && text[to] <= 'z') {
                to++;
            }
            if (to == end || text[to] != '>' || to - p > 6) {
                return -1;
            }
            int id = names.number(text, p, to + 1 - p);
            if (id != MAKE && id != START) {
                return -1;
            }
            add(MARK, id, p);
            return to + 1;
        }

        private static boolean isLetter(int c) {
            return (c >= 'a' && c <= 'z') || (c >= 'A' && c <= 'Z') || c == '_';
        }

        private static boolean isDigit(int c) {
            return c >= '0' && c <= '9';
        }

        private static boolean isSign(int c) {
            return c == ':' || c == ',' || c == ';' || c == '(' || c == ')' || c == '.' || c == '=';
        }
    }

    /** The classes of a world. */
    static final class World {
        final Names names;
        boolean used = false;
        int count = BUILT_INS;
        int wrongClass = NO;
        int wrongMethod = NO;
        int wrongAt = NO;
        final int[] rows = new int[CLASSES_MOST * CLASS_WIDTH];
        // Of linked classes: all that are above them, and they themselves, as bits.
        final long[] above = new long[CLASSES_MOST];
        final Ints fields = new Ints(16 * FIELD_WIDTH);
        final Ints methods = new Ints(64 * METHOD_WIDTH);
        final Ints codes = new Ints(128 * CODE_WIDTH);
        final Ints handlers = new Ints(8 * HANDLER_WIDTH);
        // Labels of picks, and frames: how many KINDS of locals, these, how many of the stack, these.
        final Ints extra = new Ints(64);
        // Of linked classes: the faces above them in the order in which they are come to.
        final Ints orders = new Ints(64);
        // By the numbers of names: 1 more than the class of this name, 0 for none.
        final Ints classNamed = new Ints(256);
        private int breaks = 0;
        private final int[] marks = new int[6];

        World(Names n) {
            names = n;
            for (int c = 0; c < BUILT_INS; c++) {
                addClass(FIRST_CLASS + c, 0, c == 0 ? -1 : c == 1 ? THING : FAULT, c);
                int row = c * CLASS_WIDTH;
                if (c > LINK_FAULT) {
                    rows[row + CLASS_PARENT] = FIRST_CLASS + LINK_FAULT;
                }
                above[c] = 1L << c | 1 | (c > 0 ? 2 : 0) | (c > LINK_FAULT ? 1L << LINK_FAULT : 0);
                rows[row + CLASS_LINKED] = WELL_LINKED;
                rows[row + CLASS_STATE] = STATE_STARTED;
                rows[row + CLASS_METHODS] = 1;
                methods.add(n.makeSign);
                for (int i = 1; i < METHOD_WIDTH; i++) {
                    methods.add(0);
                }
            }
        }

        void restart(int newBreaks) {
            breaks = newBreaks;
            takeBack(BUILT_INS);
            fields.size = 0;
            methods.size = BUILT_INS * METHOD_WIDTH;
            codes.size = 0;
            handlers.size = 0;
            extra.size = 0;
            orders.size = 0;
            wrongClass = NO;
            wrongMethod = NO;
            wrongAt = NO;
        }

        private void takeBack(int few) {
            for (int c = count - 1; c >= few; c--) {
                classNamed.put(rows[c * CLASS_WIDTH + CLASS_NAME], 0);
            }
            count = few;
        }

        void mark() {
            marks[0] = count;
            marks[1] = fields.size;
            marks[2] = methods.size;
            marks[3] = codes.size;
            marks[4] = handlers.size;
            marks[5] = extra.size;
        }

        void backToMark() {
            takeBack(marks[0]);
            fields.size = marks[1];
            methods.size = marks[2];
            codes.size = marks[3];
            handlers.size = marks[4];
            extra.size = marks[5];
        }

        /** A class is there, the one with this number; its columns but these are to be set yet. */
        void addClass(int name, int flags, int parent, int c) {
            int row = c * CLASS_WIDTH;
            for (int i = 0; i < CLASS_WIDTH; i++) {
                rows[row + i] = 0;
            }
            rows[row + CLASS_NAME] = name;
            rows[row + CLASS_FLAGS] = flags;
            rows[row + CLASS_PARENT] = parent;
            rows[row + CLASS_FIELD0] = fields.size;
            rows[row + CLASS_METHOD0] = methods.size;
            for (int i = classNamed.size; i <= name; i++) {
                classNamed.add(0);
            }
            classNamed.put(name, c + 1);
        }

        int of(int c, int column) {
            return rows[c * CLASS_WIDTH + column];
        }

        void set(int c, int column, int v) {
            rows[c * CLASS_WIDTH + column] = v;
        }

        /** The class of this name, -1 if it is not there. */
        int number(int name) {
            return name >= 0 && name < classNamed.size ? classNamed.row[name] - 1 : -1;
        }

        /** The parent as it was told, -1 if there is none or it is not there. */
        int toldParent(int c) {
            int name = rows[c * CLASS_WIDTH + CLASS_PARENT];
            return name >= 0 && name < classNamed.size ? classNamed.row[name] - 1 : -1;
        }

        /** The parent, -1 if there is none or it is not there; a face's counts as Thing. */
        int up(int c) {
            int row = c * CLASS_WIDTH;
            int name = (rows[row + CLASS_FLAGS] & FACE_CLASS) != 0 ? THING : rows[row + CLASS_PARENT];
            return name >= 0 && name < classNamed.size ? classNamed.row[name] - 1 : -1;
        }

        int face(int c, int i) {
            int name = rows[c * CLASS_WIDTH + CLASS_FACE0 + i];
            return name < classNamed.size ? classNamed.row[name] - 1 : -1;
        }

        boolean isFace(int c) {
            return (rows[c * CLASS_WIDTH + CLASS_FLAGS] & FACE_CLASS) != 0;
        }

        int field(int c, int k, int column) {
            return fields.row[rows[c * CLASS_WIDTH + CLASS_FIELD0] + k * FIELD_WIDTH + column];
        }

        int method(int c, int k, int column) {
            return methods.row[rows[c * CLASS_WIDTH + CLASS_METHOD0] + k * METHOD_WIDTH + column];
        }

        boolean hasBody(int c, int k) {
            int flags = methods.row[rows[c * CLASS_WIDTH + CLASS_METHOD0] + k * METHOD_WIDTH + METHOD_FLAGS];
            return c >= BUILT_INS && (flags & ABSTRACT) == 0;
        }

        /** Method k's instruction at: where its columns begin in codes. */
        int code(int c, int k, int at) {
            int row = rows[c * CLASS_WIDTH + CLASS_METHOD0] + k * METHOD_WIDTH;
            return methods.row[row + METHOD_CODE0] + at * CODE_WIDTH;
        }

        int methodWith(int c, int sign) {
            int row = rows[c * CLASS_WIDTH + CLASS_METHOD0];
            int count = rows[c * CLASS_WIDTH + CLASS_METHODS];
            for (int k = 0; k < count; k++) {
                if (methods.row[row + k * METHOD_WIDTH] == sign) {
                    return k;
                }
            }
            return -1;
        }

        /** The field of this name, and of this type if one is told (not -1), of class c; -1 for none. */
        int fieldWith(int c, int name, int type) {
            int row = rows[c * CLASS_WIDTH + CLASS_FIELD0];
            int count = rows[c * CLASS_WIDTH + CLASS_FIELDS];
            for (int k = 0; k < count; k++) {
                int one = row + k * FIELD_WIDTH;
                if (fields.row[one] == name && (type < 0 || fields.row[one + FIELD_TYPE] == type)) {
                    return k;
                }
            }
            return -1;
        }

        /** Whether a rule that can be broken on purpose is asked: the bit that breaks it. */
        boolean asks(int bit) {
            return (breaks >> bit & 1) == 0;
        }

        /** The classes straight above c, as bits: the parent as it is given, and the faces, as far as they are there. */
        long ups(int c, int parent) {
            long bits = parent < 0 ? 0 : 1L << parent;
            for (int i = 0; i < rows[c * CLASS_WIDTH + CLASS_FACES]; i++) {
                int f = face(c, i);
                bits |= f < 0 ? 0 : 1L << f;
            }
            return bits;
        }

        /** All classes above c, told parents or those that count, as bits; c itself only if a way comes back to it. */
        long allAbove(int c, boolean told) {
            long seen = 0;
            long next = ups(c, told ? toldParent(c) : up(c));
            for (int i = 0; i < CLASSES_MOST && next != 0; i++) {
                int x = 0;
                while (x < CLASSES_MOST - 1 && (next >> x & 1) == 0) {
                    x++;
                }
                seen |= 1L << x;
                next = (next | ups(x, told ? toldParent(x) : up(x))) & ~seen;
            }
            return seen;
        }

        /** Whether a linked class is below another one. */
        boolean below(int c, int x) {
            return (above[c] >> x & 1) != 0;
        }
    }

    /** Takes texts as classes, and lines as calls; the first rule that is broken, and where, is kept. */
    static final class Reader {
        private static final int OUT = 0;
        private static final int IN_CLASS = 1;
        private static final int BEFORE_ROOM = 2;
        private static final int IN_BODY = 3;
        private static final int IN_CODES = 0;
        private static final int IN_EXTRA = 1;
        private static final int IN_HANDLERS = 2;
        private static final int USE_WIDTH = 4;
        private static final int UNTOLD = -1;
        int spot = NO;
        int came = 0;
        private final Names names;
        private final Words words;
        private World world;
        private int rule = 0;
        private int state = OUT;
        private int noted = 0;
        private int p = 0;
        private int cls = 0;
        private int method = 0;
        private final int[] types = new int[ARGUMENTS_MOST];
        private int typeCount = 0;
        // Labels: name, instruction. Uses of them: name, the line's place, the table and the index where it goes.
        private final Ints labels = new Ints(64);
        private final Ints uses = new Ints(128);
        private int toldTwice = UNTOLD;
        private int frame = UNTOLD;
        private int framePlace = 0;

        Reader(Names n, Words w) {
            names = n;
            words = w;
            world = null;
        }

        /** The text's classes come into a world: 0, or the rule that it breaks, and nothing comes. */
        int read(World w, byte[] text, int from, int to) {
            world = w;
            rule = 0;
            state = OUT;
            w.mark();
            int had = w.count;
            for (int at = from; at < to && rule == 0; at = words.after) {
                if (words.load(text, at, to)) {
                    line();
                }
            }
            if (state != OUT) {
                refuse(1, to);
            }
            if (rule != 0) {
                w.backToMark();
            }
            came = w.count - had;
            return rule;
        }

        private void refuse(int broken, int place) {
            if (rule == 0) {
                rule = broken;
                spot = place;
            }
        }

        private void note(int broken) {
            noted = noted == 0 ? broken : Math.min(noted, broken);
        }

        private void line() {
            noted = 0;
            p = 0;
            if (state == OUT) {
                classLine();
            } else if (state == BEFORE_ROOM) {
                roomLine();
            } else if (state == IN_BODY && (isLabel() || !isMemberLine())) {
                bodyLine();
            } else {
                if (state == IN_BODY) {
                    endMethod();
                }
                memberLine();
            }
            if (noted != 0) {
                refuse(noted, words.at[0]);
            }
        }

        private boolean isKey(int key) {
            return words.kind[p] == Words.NAME && words.value[p] == key;
        }

        private boolean isSign(int sign) {
            return words.kind[p] == Words.SIGN && words.value[p] == sign;
        }

        private boolean isLabel() {
            return words.kind[p] == Words.NAME && words.kind[p + 1] == Words.SIGN && words.value[p + 1] == ':';
        }

        private boolean isMemberLine() {
            int key = words.value[0];
            return words.kind[0] == Words.NAME && (key == KEY_FIELD || key == KEY_METHOD || key == KEY_END);
        }

        private void takeKey(int key) {
            if (words.kind[p] == Words.NAME && words.value[p] == key) {
                p++;
            } else {
                refuse(1, words.at[p]);
            }
        }

        /** The next word, which has to be of this sort: its value; else rule 1 is broken, and nothing is taken. */
        private int take(char sort) {
            int kind = words.kind[p];
            int v = words.value[p];
            boolean name = kind == Words.NAME;
            boolean number = kind == Words.NUMBER;
            boolean good;
            switch (sort) {
                case '$':
                    good = kind == Words.END;
                    break;
                case 'n': // a NAME
                    good = name;
                    break;
                case 'm': // of a method
                    good = name || kind == Words.MARK;
                    break;
                case 'M': // of a method in an instruction
                    good = name || (kind == Words.MARK && v == MAKE);
                    break;
                case 'c': // of a class
                    good = name && v >= FIRST_CLASS;
                    break;
                case 'N': // a TYPE of a CALL
                    good = name && v == NUM;
                    break;
                case 'T': // a TYPE
                    good = name && (v <= ROW || v >= FIRST_CLASS);
                    break;
                case 'R': // a RESULT
                    good = name && (v <= ROW || v == NONE || v >= FIRST_CLASS);
                    break;
                case 'K': // a KIND
                    good = name && (v <= UNMADE || v >= FIRST_CLASS);
                    break;
                case 'h': // what a handler takes
                    good = name && (v == ANY || v >= FIRST_CLASS);
                    break;
                case 'k': // a NUMBER
                    good = number;
                    break;
                case 'p': // of STACK or LOCALS
                    good = number && v >= 0 && v <= PART_MOST;
                    break;
                case 'i': // of a local
                    good = number && v >= 0 && v < PART_MOST;
                    break;
                default:
                    good = kind == Words.SIGN && v == sort;
                    break;
            }
            if (!good && rule == 0) {
                rule = 1;
                spot = words.at[p];
            }
            p += good && sort != '$' ? 1 : 0;
            return good ? v : 0;
        }

        /** FLAGS, each once, as bits: those of these names count 1, 2, 4 and 8 (-1: none has this bit). */
        private int takeFlags(int one, int two, int four, int eight) {
            int flags = 0;
            for (int i = 0; i < 4; i++) {
                int v = words.kind[p] == Words.NAME ? words.value[p] : NUM;
                int bit = v == one ? 1 : v == two ? 2 : v == four ? 4 : v == eight ? 8 : 0;
                if (bit == 0 || (flags & bit) != 0) {
                    return flags;
                }
                flags |= bit;
                p++;
            }
            return flags;
        }

        private void classLine() {
            int flags = takeFlags(KEY_FINAL, KEY_ABSTRACT, KEY_FACE, -1);
            takeKey(KEY_CLASS);
            int name = take('c');
            take(':');
            int parentAt = p;
            int parent = take('c');
            int faces = 0;
            for (int i = 0; i < TAPE_MOST && rule == 0 && isSign(','); i++) {
                p++;
                take('c');
                faces++;
            }
            take('$');
            if (rule != 0) {
                return;
            }
            noteClass(flags, name, parentAt, faces);
            if (noted != 0) {
                return;
            }
            cls = world.count;
            world.count++;
            world.addClass(name, flags, parent, cls);
            world.set(cls, CLASS_FACES, faces);
            for (int i = 0; i < faces; i++) {
                world.set(cls, CLASS_FACE0 + i, words.value[parentAt + 2 + 2 * i]);
            }
            state = IN_CLASS;
        }

        private void noteClass(int flags, int name, int parentAt, int faces) {
            if (world.number(name) >= 0) {
                note(2);
            }
            boolean face = (flags & FACE_CLASS) != 0;
            boolean one = flags == 0 || flags == FINAL_CLASS || flags == ABSTRACT_CLASS || flags == FACE_CLASS;
            if ((!one || (face && words.value[parentAt] != THING)) && world.asks(0)) {
                note(4);
            }
            for (int i = 0; i <= faces; i++) {
                int told = words.value[parentAt + 2 * i];
                boolean twice = told == name;
                for (int j = 0; j < i; j++) {
                    twice = twice || words.value[parentAt + 2 * j] == told;
                }
                if (twice) {
                    note(11);
                }
            }
            if (faces > FACES_MOST || world.count >= CLASSES_MOST) {
                note(12);
            }
        }

        private void memberLine() {
            if (isKey(KEY_FIELD)) {
                fieldLine();
            } else if (isKey(KEY_METHOD)) {
                methodLine();
            } else {
                takeKey(KEY_END);
                take('$');
                state = OUT;
            }
        }

        private void fieldLine() {
            p = 1;
            int flags = takeFlags(KEY_STATIC, KEY_FINAL, KEY_PRIVATE, -1);
            int name = take('n');
            int type = take('T');
            boolean told = isSign('=');
            int number = 0;
            if (told) {
                p++;
                number = take('k');
            }
            take('$');
            state = IN_CLASS;
            if (rule != 0) {
                return;
            }
            if (world.fieldWith(cls, name, -1) >= 0) {
                note(3);
            }
            if (world.isFace(cls) && (flags & (STATIC | FINAL)) != (STATIC | FINAL) && world.asks(1)) {
                note(5);
            }
            int count = world.of(cls, CLASS_FIELDS);
            if (count == FIELDS_MOST) {
                note(12);
            }
            if (told && ((flags & STATIC) == 0 || type != NUM)) {
                note(14);
            }
            if (noted == 0) {
                addField(name, type, flags, told ? 1 : 0, number);
                world.set(cls, CLASS_FIELDS, count + 1);
            }
        }

        private void addField(int name, int type, int flags, int told, int number) {
            world.fields.add(name);
            world.fields.add(type);
            world.fields.add(flags);
            world.fields.add(told);
            world.fields.add(number);
            world.fields.add(0);
            world.fields.add(0);
        }

        /** ( [TYPE ..] ), the types of this sort; a seventh breaks 12 in a text, in other lines it can't stand there. */
        private void takeTypes(char sort, boolean inText) {
            take('(');
            typeCount = 0;
            boolean more = !isSign(')');
            for (int i = 0; i < TAPE_MOST && more && rule == 0; i++) {
                int place = words.at[p];
                int type = take(sort);
                if (typeCount < ARGUMENTS_MOST) {
                    types[typeCount] = type;
                } else if (inText) {
                    note(12);
                } else {
                    refuse(1, place);
                }
                typeCount++;
                more = isSign(',');
                p += more ? 1 : 0;
            }
            take(')');
        }

        private void methodLine() {
            p = 1;
            int flags = takeFlags(KEY_STATIC, KEY_FINAL, KEY_PRIVATE, KEY_ABSTRACT);
            int name = take('m');
            takeTypes('T', true);
            int result = take('R');
            take('$');
            state = (flags & ABSTRACT) != 0 ? IN_CLASS : BEFORE_ROOM;
            if (rule != 0) {
                return;
            }
            noteMethod(flags, name, result);
            int count = world.of(cls, CLASS_METHODS);
            if (count == METHODS_MOST) {
                note(12);
            }
            if (typeCount > ARGUMENTS_MOST) {
                return;
            }
            int sign = names.sign(name, typeCount, types, result);
            if (world.methodWith(cls, sign) >= 0) {
                note(3);
            }
            if (noted == 0) {
                addMethod(sign, flags);
                world.set(cls, CLASS_METHODS, count + 1);
            }
        }

        private void noteMethod(int flags, int name, int result) {
            boolean isAbstract = (flags & ABSTRACT) != 0;
            if (isAbstract && (flags & (STATIC | FINAL | PRIVATE)) != 0 && world.asks(0)) {
                note(4);
            }
            boolean hidden = (flags & (FINAL | PRIVATE)) != 0 || name == MAKE;
            if (world.isFace(cls) && hidden && world.asks(1)) {
                note(5);
            }
            if (isAbstract && (world.of(cls, CLASS_FLAGS) & (ABSTRACT_CLASS | FACE_CLASS)) == 0 && world.asks(2)) {
                note(6);
            }
            if (name == MAKE && ((flags & (STATIC | FINAL | ABSTRACT)) != 0 || result != NONE)) {
                note(7);
            }
            boolean idle = typeCount == 0 && result == NONE;
            if (name == START && (flags != STATIC || !idle)) {
                note(7);
            }
        }

        private void addMethod(int sign, int flags) {
            method = world.methods.add(sign);
            world.methods.add(flags);
            world.methods.add(0);
            world.methods.add(0);
            world.methods.add(world.codes.size);
            world.methods.add(0);
            world.methods.add(world.handlers.size);
            world.methods.add(0);
            labels.size = 0;
            uses.size = 0;
            toldTwice = UNTOLD;
            frame = UNTOLD;
        }

        private void roomLine() {
            takeKey(KEY_ROOM);
            int stack = take('p');
            int locals = take('p');
            take('$');
            state = IN_BODY;
            int itself = (world.methods.row[method + METHOD_FLAGS] & STATIC) != 0 ? 0 : 1;
            if (rule == 0 && locals < names.argumentsOf(world.methods.row[method]) + itself) {
                note(13);
            }
            world.methods.put(method + METHOD_STACK, stack);
            world.methods.put(method + METHOD_LOCALS, locals);
        }

        private void bodyLine() {
            for (int i = 0; i < TAPE_MOST && isLabel(); i++) {
                tellLabel(words.value[p]);
                p += 2;
            }
            if (p > 0 && words.kind[p] == Words.END) {
                return;
            }
            if (p == 0 && isKey(KEY_FRAME)) {
                frameLine();
                return;
            }
            if (p == 0 && isKey(KEY_HANDLER)) {
                handlerLine();
                return;
            }
            int op = words.kind[p] == Words.NAME ? names.operation(words.value[p]) : -1;
            if (op < 0) {
                refuse(1, words.at[p]);
                return;
            }
            p++;
            operands(FORMS.charAt(op), addCode(op));
            take('$');
        }

        /** An instruction more, its operands to be set yet: where its columns begin. */
        private int addCode(int op) {
            int row = world.codes.add(op);
            world.codes.add(0);
            world.codes.add(0);
            world.codes.add(0);
            world.codes.add(frame);
            frame = UNTOLD;
            int count = world.methods.row[method + METHOD_CODES];
            if (count == CODES_MOST) {
                note(12);
            }
            world.methods.put(method + METHOD_CODES, count + 1);
            return row;
        }

        private void tellLabel(int name) {
            if (labelAt(name) >= 0) {
                toldTwice = toldTwice < 0 ? words.at[0] : toldTwice;
            } else {
                labels.add(name);
                labels.add(world.methods.row[method + METHOD_CODES]);
            }
        }

        /** The instruction that a label tells, -1 if it is not told. */
        private int labelAt(int name) {
            for (int i = 0; i < labels.size; i += 2) {
                if (labels.row[i] == name) {
                    return labels.row[i + 1];
                }
            }
            return -1;
        }

        private void frameLine() {
            if (frame >= 0) {
                refuse(1, words.at[0]);
                return;
            }
            p = 1;
            frame = world.extra.size;
            framePlace = words.at[0];
            takeKinds(isSign(';'));
            take(';');
            takeKinds(words.kind[p] == Words.END);
            take('$');
        }

        /** KINDS, if there are any, come into the world's extra, behind how many they are. */
        private void takeKinds(boolean none) {
            int count = world.extra.add(0);
            boolean more = !none;
            for (int i = 1; i <= TAPE_MOST && more && rule == 0; i++) {
                world.extra.add(take('K'));
                world.extra.put(count, i);
                more = isSign(',');
                p += more ? 1 : 0;
            }
        }

        private void handlerLine() {
            p = 1;
            for (int i = 0; i < HANDLER_CLASS; i++) {
                int label = take('n');
                addUse(label, IN_HANDLERS, world.handlers.add(0));
            }
            world.handlers.add(take('h'));
            take('$');
            int count = world.methods.row[method + METHOD_HANDLERS];
            if (count == HANDLERS_MOST) {
                note(12);
            }
            world.methods.put(method + METHOD_HANDLERS, count + 1);
        }

        private void addUse(int label, int table, int index) {
            uses.add(label);
            uses.add(words.at[0]);
            uses.add(table);
            uses.add(index);
        }

        private void operands(char form, int row) {
            Ints codes = world.codes;
            if (form == 'k' || form == 'i') {
                codes.put(row + CODE_A, take(form));
            } else if (form == 'j') {
                codes.put(row + CODE_A, take('i'));
                codes.put(row + CODE_B, take('k'));
            } else if (form == 'L') {
                addUse(take('n'), IN_CODES, row + CODE_A);
            } else if (form == 'P') {
                codes.put(row + CODE_A, take('k'));
                codes.put(row + CODE_B, world.extra.size);
                boolean more = true;
                for (int i = 1; i <= TAPE_MOST && more && rule == 0; i++) {
                    addUse(take('n'), IN_EXTRA, world.extra.add(0));
                    codes.put(row + CODE_C, i);
                    more = isSign(',');
                    p += more ? 1 : 0;
                }
            } else if (form != '-') {
                codes.put(row + CODE_A, take('c'));
                if (form != 'C') {
                    take('.');
                }
                if (form == 'F') {
                    codes.put(row + CODE_B, take('n'));
                    codes.put(row + CODE_C, take('T'));
                } else if (form == 'M') {
                    int name = take('M');
                    takeTypes('T', true);
                    int result = take('R');
                    codes.put(row + CODE_B, names.sign(name, Math.min(typeCount, ARGUMENTS_MOST), types, result));
                }
            }
        }

        /** What is asked of labels, frames and handlers when a method ends; its instructions get their labels. */
        private void endMethod() {
            int count = world.methods.row[method + METHOD_CODES];
            int wrong = toldTwice < 0 ? INT_MOST : toldTwice;
            if (frame >= 0) {
                wrong = Math.min(wrong, framePlace);
            }
            for (int i = 0; i < uses.size; i += USE_WIDTH) {
                int at = labelAt(uses.row[i]);
                int table = uses.row[i + 2];
                int index = uses.row[i + 3];
                boolean second = table == IN_HANDLERS && index % HANDLER_WIDTH == HANDLER_TO;
                if (at < 0 || (at == count && !second)) {
                    wrong = Math.min(wrong, uses.row[i + 1]);
                }
                Ints goal = table == IN_CODES ? world.codes : table == IN_EXTRA ? world.extra : world.handlers;
                goal.put(index, at);
            }
            if (wrong < INT_MOST) {
                refuse(9, wrong);
            }
            for (int i = 0; i < uses.size; i += USE_WIDTH) {
                int index = uses.row[i + 3];
                boolean first = uses.row[i + 2] == IN_HANDLERS && index % HANDLER_WIDTH == 0;
                if (first && world.handlers.row[index] >= world.handlers.row[index + HANDLER_TO]) {
                    refuse(10, uses.row[i + 1]);
                }
            }
            if (count == 0) {
                refuse(8, words.at[0]);
            }
        }

        /** The one line with words of a text is a CALL, or an M that asked() takes. */
        boolean readLine(byte[] text, int to, Runner r, boolean isCall) {
            int lines = 0;
            rule = 0;
            for (int at = 0; at < to && rule == 0; at = words.after) {
                if (words.load(text, at, to)) {
                    lines++;
                    if (lines > 1) {
                        refuse(1, words.at[0]);
                    } else if (isCall) {
                        callLine(r, false);
                    } else {
                        p = 0;
                        takeCalled(r, 'T');
                        take('$');
                    }
                }
            }
            if (lines == 0) {
                refuse(1, to);
            }
            return rule == 0;
        }

        /** C . NAME ( [TYPE ..] ) RESULT of a line that is no text. */
        private void takeCalled(Runner r, char sort) {
            r.callClass = take('c');
            take('.');
            int name = take('n');
            takeTypes(sort, false);
            int result = take('R');
            r.callSign = names.sign(name, Math.min(typeCount, ARGUMENTS_MOST), types, result);
        }

        /** The line that is looked at is a CALL, behind run if that is wanted: whether it is. */
        boolean callLine(Runner r, boolean withRun) {
            rule = 0;
            p = 0;
            if (withRun) {
                takeKey(KEY_RUN);
            }
            takeCalled(r, 'N');
            for (int i = 0; i < typeCount && rule == 0; i++) {
                take(i == 0 ? ':' : ',');
                r.callNumbers[i] = take('k');
            }
            take('$');
            return rule == 0;
        }
    }

    /** Asks the rules 30 .. 44 of a method's instructions: by its frames, or with KINDS inferred. */
    static final class Checker {
        private static final int STATE_WIDTH = 2 * PART_MOST;
        private static final int NO_HANDLER = INT_LEAST;
        // What may be wanted besides a KIND.
        private static final int WANT_ANY = INT_LEAST;
        private static final int WANT_REFERENCE = INT_LEAST + 1;
        private static final int WANT_STORED = INT_LEAST + 2;
        int spot = 0;
        int spotMethod = 0;
        private final Names names;
        private World world;
        private int cls = 0;
        private int code0 = 0;
        private int codes = 0;
        private int locals = 0;
        private int stack = 0;
        private int result = NONE;
        private boolean inMake = false;
        // The instruction at hand: where its columns begin, how many of the stack it wants, whether it calls a <make>.
        private int row = 0;
        private int op = 0;
        private int wants = 0;
        private boolean makes = false;
        // The KINDS at hand: locals, behind them the stack from its lowest. NEW i is -1 - i.
        private final int[] now = new int[STATE_WIDTH];
        private int depth = 0;
        private boolean changed = false;
        // Of each instruction: its KINDS, and how many are on the stack (-1: nothing is known).
        private final int[] known = new int[CODES_MOST * STATE_WIDTH];
        private final int[] depths = new int[CODES_MOST];
        private int toldCodes = 0;
        private int toldLocals = 0;

        Checker(Names n) {
            names = n;
            world = null;
        }

        private void begin(World w, int c, int m) {
            world = w;
            cls = c;
            spotMethod = m;
            code0 = w.method(c, m, METHOD_CODE0);
            int sign = w.method(c, m, METHOD_SIGN);
            codes = w.method(c, m, METHOD_CODES);
            locals = w.method(c, m, METHOD_LOCALS);
            stack = w.method(c, m, METHOD_STACK);
            result = names.resultOf(sign);
            inMake = names.nameOf(sign) == MAKE;
            depth = 0;
            spot = 0;
            Arrays.fill(now, UNSET);
            int itself = (w.method(c, m, METHOD_FLAGS) & STATIC) != 0 ? 0 : 1;
            if (itself == 1) {
                now[0] = inMake ? UNMADE : w.of(c, CLASS_NAME);
            }
            for (int k = 0; k < names.argumentsOf(sign); k++) {
                now[itself + k] = names.typeOf(sign, k);
            }
        }

        /** Instruction at is the one at hand. */
        private void load(int at) {
            row = code0 + at * CODE_WIDTH;
            op = world.codes.row[row];
            makes = false;
            if (op >= OP_CALL && op <= OP_FACECALL) {
                int called = world.codes.row[row + CODE_B];
                wants = names.argumentsOf(called) + (op == OP_STATIC ? 0 : 1);
                makes = names.nameOf(called) == MAKE;
                return;
            }
            wants = 0;
            while (wants < 3 && WANTS.charAt(3 * op + wants) != ' ') {
                wants++;
            }
        }

        private int operand(int column) {
            return world.codes.row[row + column];
        }

        private void forget() {
            Arrays.fill(depths, -1);
            toldCodes = codes;
            toldLocals = locals;
        }

        private void keep(int at) {
            System.arraycopy(now, 0, known, at * STATE_WIDTH, STATE_WIDTH);
            depths[at] = depth;
        }

        /** The first rule that a class's methods from .. to - 1 break, asked by their frames; 0 for none. The spot tells where. */
        int check(World w, int c, int from, int to, boolean kept) {
            for (int m = from; m < to; m++) {
                begin(w, c, m);
                if (kept) {
                    forget();
                }
                boolean flows = true;
                for (int at = 0; at < codes; at++) {
                    spot = at;
                    load(at);
                    int rule = arrive(at, flows);
                    if (rule == 0 && kept) {
                        keep(at);
                    }
                    rule = rule != 0 ? rule : handlersFit(at);
                    rule = rule != 0 ? rule : rules(at);
                    if (rule == 0) {
                        act(at);
                        rule = changesLocals() ? handlersFit(at) : 0;
                    }
                    rule = rule != 0 ? rule : labelsFit();
                    flows = goesOn();
                    rule = rule == 0 && flows && at == codes - 1 ? 35 : rule;
                    if (rule != 0) {
                        return rule;
                    }
                }
            }
            return 0;
        }

        /** The frame of an instruction, if it has one, is what holds there. */
        private int arrive(int at, boolean flows) {
            int frame = operand(CODE_FRAME);
            if (frame < 0) {
                return flows ? 0 : 36;
            }
            int rule = flows ? stateFits(at, NO_HANDLER) : frameWrong(frame) ? 38 : 0;
            if (rule != 0) {
                return rule;
            }
            int[] extra = world.extra.row;
            int toldHere = extra[frame];
            for (int i = 0; i < locals; i++) {
                now[i] = i < toldHere ? extra[frame + 1 + i] : UNSET;
            }
            depth = extra[frame + 1 + toldHere];
            for (int i = 0; i < depth; i++) {
                now[PART_MOST + i] = extra[frame + 2 + toldHere + i];
            }
            return 0;
        }

        private boolean frameWrong(int frame) {
            int[] extra = world.extra.row;
            int toldHere = extra[frame];
            int onStack = extra[frame + 1 + toldHere];
            if (toldHere > locals || onStack > stack) {
                return true;
            }
            for (int i = 0; i < toldHere + onStack; i++) {
                int kind = i < toldHere ? extra[frame + 1 + i] : extra[frame + 2 + i];
                if ((kind == UNMADE && !inMake) || (kind == UNSET && i >= toldHere)) {
                    return true;
                }
            }
            return false;
        }

        private int handlersFit(int at) {
            int[] handlers = world.handlers.row;
            int from = world.method(cls, spotMethod, METHOD_HANDLER0);
            int to = from + world.method(cls, spotMethod, METHOD_HANDLERS) * HANDLER_WIDTH;
            int rule = 0;
            for (int h = from; h < to && rule == 0; h += HANDLER_WIDTH) {
                if (handlers[h] <= at && at < handlers[h + HANDLER_TO]) {
                    int name = handlers[h + HANDLER_CLASS];
                    rule = stateFits(handlers[h + HANDLER_GOAL], name == ANY ? FAULT : name);
                }
            }
            return rule;
        }

        /** What is at hand (of a handler: its locals, and what is thrown) fits an instruction's frame: 0, or the rule. */
        private int stateFits(int goal, int thrown) {
            int frame = world.codes.row[code0 + goal * CODE_WIDTH + CODE_FRAME];
            if (frame < 0) {
                return 36;
            }
            if (frameWrong(frame)) {
                return 38;
            }
            int[] extra = world.extra.row;
            int toldHere = extra[frame];
            int stackRow = frame + 2 + toldHere;
            int onStack = extra[stackRow - 1];
            boolean handled = thrown != NO_HANDLER;
            if (handled && onStack != 1) {
                return 37;
            }
            for (int i = 0; i < locals; i++) {
                int rule = fits(now[i], i < toldHere ? extra[frame + 1 + i] : UNSET);
                if (rule != 0) {
                    return rule;
                }
            }
            if (!handled && onStack != depth) {
                return 37;
            }
            for (int i = 0; i < onStack; i++) {
                int rule = fits(handled ? thrown : now[PART_MOST + i], extra[stackRow + i]);
                if (rule != 0) {
                    return rule;
                }
            }
            return 0;
        }

        /** 0 if a KIND fits another, 37 if not, 43 if a class that is needed to know it is not there. */
        private int fits(int a, int b) {
            if (a == b || b == UNSET) {
                return 0;
            }
            if (a == NULL) {
                return b == ROW || b >= FIRST_CLASS ? 0 : 37;
            }
            if (a == ROW || a < FIRST_CLASS || b < FIRST_CLASS) {
                return a == ROW && b == THING ? 0 : 37;
            }
            if (b == THING) {
                return 0;
            }
            int[] named = world.classNamed.row;
            int last = world.classNamed.size;
            int goal = b < last ? named[b] - 1 : -1;
            if (goal < 0) {
                return 43;
            }
            if ((world.rows[goal * CLASS_WIDTH + CLASS_FLAGS] & FACE_CLASS) != 0) {
                return 0;
            }
            int name = a;
            for (int i = 0; i < CLASSES_MOST && name != THING; i++) {
                int x = name < last ? named[name] - 1 : -1;
                if (x < 0) {
                    return 43;
                }
                if (x == goal) {
                    return 0;
                }
                boolean face = (world.rows[x * CLASS_WIDTH + CLASS_FLAGS] & FACE_CLASS) != 0;
                name = face ? THING : world.rows[x * CLASS_WIDTH + CLASS_PARENT];
            }
            return 37;
        }

        private static boolean isReference(int kind) {
            return kind == ROW || kind == NULL || kind >= FIRST_CLASS;
        }

        private static boolean isRaw(int kind) {
            return kind == UNMADE || kind < 0;
        }

        private boolean changesLocals() {
            return op == OP_NSTORE || op == OP_RSTORE || (op == OP_SPECIAL && makes);
        }

        private boolean goesOn() {
            return op != OP_JUMP && op != OP_PICK && (op < OP_THROW || op > OP_RDONE);
        }

        /** What the instruction wants k below the top of the stack. */
        private int want(int k) {
            if (op >= OP_CALL && op <= OP_FACECALL) {
                if (k < wants - (op == OP_STATIC ? 0 : 1)) {
                    int called = operand(CODE_B);
                    return names.typeOf(called, names.argumentsOf(called) - 1 - k);
                }
                if (op != OP_SPECIAL) {
                    return operand(CODE_A);
                }
                return makes ? WANT_ANY : world.of(cls, CLASS_NAME);
            }
            switch (WANTS.charAt(3 * op + k)) {
                case 'n':
                    return NUM;
                case 'w':
                    return ROW;
                case 'r':
                    return WANT_REFERENCE;
                case 's':
                    return WANT_STORED;
                case 'f':
                    return FAULT;
                case 'C':
                    return operand(CODE_A);
                case 'T':
                    return operand(CODE_C);
                case 'R':
                    return result == NUM || result == NONE ? WANT_REFERENCE : result;
                default:
                    return WANT_ANY;
            }
        }

        /** 0 if a KIND is as wanted, else rule 32 or 43; unmade and NEW are passed over where a reference is wanted. */
        private int asWanted(int kind, int want) {
            if (want == WANT_ANY || (want != NUM && isRaw(kind))) {
                return 0;
            }
            if (want == WANT_REFERENCE || want == WANT_STORED) {
                return isReference(kind) ? 0 : 32;
            }
            int rule = fits(kind, want);
            return rule == 37 ? 32 : rule;
        }

        /** The rules of the instruction itself, up to 30. */
        private int rules(int at) {
            char form = FORMS.charAt(op);
            int local = operand(CODE_A);
            if ((form == 'i' || form == 'j') && local >= locals) {
                return 33;
            }
            if (depth < wants) {
                return 31;
            }
            int top = PART_MOST + depth - 1;
            boolean raw = false;
            for (int k = 0; k < wants; k++) {
                int want = want(k);
                int rule = asWanted(now[top - k], want);
                if (rule != 0) {
                    return rule;
                }
                raw = raw || (isRaw(now[top - k]) && want != WANT_ANY && want != WANT_STORED);
            }
            if ((op == OP_NLOAD || op == OP_INC) && now[local] != NUM) {
                return 34;
            }
            if (op == OP_RLOAD && !isReference(now[local]) && !isRaw(now[local])) {
                return 34;
            }
            if (raw) {
                return 39;
            }
            int rule = ownRules();
            int more = op == OP_DUP || op == OP_DUPX ? 1 : op == OP_SWAP ? 0 : comes(at) == NONE ? -wants : 1 - wants;
            return rule != 0 ? rule : depth + more > stack ? 30 : 0;
        }

        /** The KIND that the instruction leaves on the stack, NONE for none. */
        private int comes(int at) {
            if (op >= OP_CALL && op <= OP_FACECALL) {
                return names.resultOf(operand(CODE_B));
            }
            switch (COMES.charAt(op)) {
                case 'n':
                    return NUM;
                case 'z':
                    return NULL;
                case 'l':
                    return now[operand(CODE_A)];
                case 'N':
                    return -1 - at;
                case 'w':
                    return ROW;
                case 'T':
                    return operand(CODE_C);
                case 'C':
                    return operand(CODE_A);
                default:
                    return NONE;
            }
        }

        /** Rules 40 .. 42. */
        private int ownRules() {
            if (op == OP_DONE) {
                return inMake && hasUnmade() ? 40 : result != NONE ? 41 : 0;
            }
            if (op == OP_NDONE) {
                return result != NUM ? 41 : 0;
            }
            if (op == OP_RDONE) {
                return result == NUM || result == NONE ? 41 : 0;
            }
            if (op != OP_SPECIAL) {
                return makes ? 42 : 0;
            }
            int told = operand(CODE_A);
            boolean good = told == world.of(cls, CLASS_NAME);
            good = good || told == (world.isFace(cls) ? THING : world.of(cls, CLASS_PARENT));
            if (makes) {
                int kind = now[PART_MOST + depth - wants];
                boolean fresh = kind < 0 && world.codes.row[code0 + (-1 - kind) * CODE_WIDTH + CODE_A] == told;
                return fresh || (kind == UNMADE && good) ? 0 : 42;
            }
            for (int i = 0; i < world.of(cls, CLASS_FACES); i++) {
                good = good || told == world.of(cls, CLASS_FACE0 + i);
            }
            return good ? 0 : 42;
        }

        private boolean hasUnmade() {
            for (int i = 0; i < PART_MOST; i++) {
                if ((i < locals && now[i] == UNMADE) || (i < depth && now[PART_MOST + i] == UNMADE)) {
                    return true;
                }
            }
            return false;
        }

        /** The KINDS become what they are behind the instruction. */
        private void act(int at) {
            int top = PART_MOST + depth - 1;
            if (op == OP_DUP || op == OP_DUPX || op == OP_SWAP) {
                turn(top);
                return;
            }
            int comes = comes(at);
            if (op == OP_NSTORE || op == OP_RSTORE) {
                now[operand(CODE_A)] = now[top];
            } else if (op == OP_SPECIAL && makes) {
                made(now[top + 1 - wants]);
            }
            depth -= wants;
            if (comes != NONE) {
                now[PART_MOST + depth] = comes;
                depth++;
            }
        }

        private void turn(int top) {
            int upper = now[top];
            if (op == OP_DUP) {
                now[top + 1] = upper;
            } else {
                now[top] = now[top - 1];
                now[top - 1] = upper;
                if (op == OP_DUPX) {
                    now[top + 1] = upper;
                }
            }
            depth += op == OP_SWAP ? 0 : 1;
        }

        /** All that are this unmade or NEW one have a class now. */
        private void made(int kind) {
            int becomes = kind == UNMADE ? world.of(cls, CLASS_NAME) : operand(CODE_A);
            for (int i = 0; i < PART_MOST + depth; i++) {
                if (now[i] == kind) {
                    now[i] = becomes;
                }
            }
        }

        private int labelCount() {
            return op == OP_PICK ? operand(CODE_C) : op >= OP_JUMP && op < OP_PICK ? 1 : 0;
        }

        private int label(int i) {
            return op == OP_PICK ? world.extra.row[operand(CODE_B) + i] : operand(CODE_A);
        }

        private int labelsFit() {
            int count = labelCount();
            int rule = 0;
            for (int i = 1; i <= count && rule == 0; i++) {
                // pick's first label is asked at last
                rule = stateFits(label(i < count ? i : 0), NO_HANDLER);
            }
            return rule;
        }

        /** The first rule that a method breaks when its KINDS are inferred, frames aside; 0 for none. */
        int infer(World w, int c, int m) {
            begin(w, c, m);
            forget();
            keep(0);
            for (int round = 0; round < ROUNDS_MOST; round++) {
                changed = false;
                for (int at = 0; at < codes; at++) {
                    if (depths[at] >= 0) {
                        System.arraycopy(known, at * STATE_WIDTH, now, 0, STATE_WIDTH);
                        depth = depths[at];
                        int rule = look(at);
                        if (rule != 0) {
                            spot = at;
                            return rule;
                        }
                    }
                }
                if (!changed) {
                    return 0;
                }
            }
            spot = 0;
            return 44;
        }

        private int look(int at) {
            load(at);
            int rule = handlersGo(at);
            rule = rule != 0 ? rule : rules(at);
            if (rule != 0) {
                return rule;
            }
            act(at);
            if (changesLocals()) {
                rule = handlersGo(at);
            }
            for (int i = 0; i < labelCount() && rule == 0; i++) {
                rule = go(label(i), NO_HANDLER);
            }
            if (rule == 0 && goesOn()) {
                rule = at == codes - 1 ? 35 : go(at + 1, NO_HANDLER);
            }
            return rule;
        }

        private int handlersGo(int at) {
            int[] handlers = world.handlers.row;
            int from = world.method(cls, spotMethod, METHOD_HANDLER0);
            int to = from + world.method(cls, spotMethod, METHOD_HANDLERS) * HANDLER_WIDTH;
            int rule = 0;
            for (int h = from; h < to && rule == 0; h += HANDLER_WIDTH) {
                if (handlers[h] <= at && at < handlers[h + HANDLER_TO]) {
                    int name = handlers[h + HANDLER_CLASS];
                    rule = stack == 0 ? 30 : go(handlers[h + HANDLER_GOAL], name == ANY ? FAULT : name);
                }
            }
            return rule;
        }

        /** What is at hand (of a handler: its locals, and what is thrown) goes to an instruction: 0, or the rule. */
        private int go(int goal, int thrown) {
            int place = goal * STATE_WIDTH;
            boolean handled = thrown != NO_HANDLER;
            int size = handled ? 1 : depth;
            boolean first = depths[goal] < 0;
            if (!first && depths[goal] != size) {
                return 37;
            }
            for (int i = 0; i < size && !first; i++) {
                if (join(known[place + PART_MOST + i], handled ? thrown : now[PART_MOST + i]) == UNSET) {
                    return 37;
                }
            }
            for (int i = 0; i < PART_MOST + size; i++) {
                int kind = handled && i >= PART_MOST ? thrown : now[i];
                kind = first ? kind : join(known[place + i], kind);
                changed = changed || first || known[place + i] != kind;
                known[place + i] = kind;
            }
            depths[goal] = size;
            return 0;
        }

        /** Two KINDS joined: UNSET where they have nothing in common. */
        private int join(int was, int comes) {
            if (was == comes) {
                return was;
            }
            if (!isReference(was) || !isReference(comes)) {
                return UNSET;
            }
            if (was == NULL || comes == NULL) {
                return was == NULL ? comes : was;
            }
            int goal = world.number(comes);
            int x = world.number(was);
            if (was == ROW || comes == ROW || goal < 0) {
                return THING;
            }
            for (int i = 0; i < CLASSES_MOST && x >= 0; i++) {
                if (aboveByParents(x, goal)) {
                    return world.of(x, CLASS_NAME);
                }
                x = world.up(x);
            }
            return THING;
        }

        private boolean aboveByParents(int x, int below) {
            int c = below;
            for (int i = 0; i < CLASSES_MOST && c >= 0 && c != x; i++) {
                c = world.up(c);
            }
            return c == x;
        }

        /** The KINDS that are known are told by numbers from now on: worlds may change. */
        void tellNumbers() {
            for (int i = 0; i < toldCodes * STATE_WIDTH; i++) {
                int kind = known[i];
                if (kind < 0) {
                    known[i] = 5;
                } else if (kind >= FIRST_CLASS) {
                    int c = world.number(kind);
                    known[i] = c < 0 ? 99 : 100 + c;
                }
            }
        }

        int toldKind(int i, int k) {
            if (i < 0 || i >= toldCodes || depths[i] < 0 || k < -1 || k >= STATE_WIDTH) {
                return BAD;
            }
            if (k == -1) {
                return depths[i];
            }
            boolean there = k < PART_MOST ? k < toldLocals : k - PART_MOST < depths[i];
            return there ? known[i * STATE_WIDTH + k] : BAD;
        }
    }

    /** Links classes, and finds classes and members as instructions name them. */
    static final class Finder {
        private static final int OPEN_MOST = 256;
        // What was found: the class, the member in it; and the class that was named.
        int cls = 0;
        int member = 0;
        int named = 0;
        final Ints reachList = new Ints(64);
        private final Names names;
        private final Checker checker;
        // Classes that are being linked, one for the other, and how far each is: the parent, the faces.
        private final int[] waiting = new int[CLASSES_MOST + 1];
        private final int[] phase = new int[CLASSES_MOST + 1];
        private final int[] open = new int[OPEN_MOST];
        private int opened = 0;

        Finder(Names n, Checker c) {
            names = n;
            checker = c;
        }

        /** Class c is linked, if it was not: 0, or 100 times the rule and the fault's class. */
        int settle(World w, int c) {
            int top = 0;
            waiting[0] = c;
            phase[0] = -1;
            for (int i = 0; i < CLASSES_MOST * CLASSES_MOST && top >= 0; i++) {
                int x = waiting[top];
                int status = w.of(x, CLASS_LINKED);
                if (status == 0 && phase[top] < 0) {
                    status = headFault(w, x);
                    phase[top] = 0;
                }
                int wanted = status == 0 ? nextAbove(w, x, top) : -1;
                if (wanted >= 0 && top < CLASSES_MOST) {
                    top++;
                    waiting[top] = wanted;
                    phase[top] = -1;
                } else {
                    status = status == 0 ? w.of(x, CLASS_LINKED) : status;
                    status = status == 0 && w.asks(4) && hasFinalAbove(w, x) ? RULE25 : status;
                    int rule = status == 0 ? checker.check(w, x, 0, w.of(x, CLASS_METHODS), false) : 0;
                    if (status == 0) {
                        status = endCheck(w, x, rule);
                    }
                    w.set(x, CLASS_LINKED, status);
                    top--;
                }
            }
            int end = w.of(c, CLASS_LINKED);
            return end == WELL_LINKED ? 0 : end;
        }

        /** The next class above x that has to be linked; -1 when there is none, or one failed, and x with it. */
        private int nextAbove(World w, int x, int top) {
            int faces = w.of(x, CLASS_FACES);
            for (int k = phase[top]; k <= faces; k++) {
                phase[top] = k;
                int above = k == 0 ? w.toldParent(x) : w.face(x, k - 1);
                int status = above < 0 ? WELL_LINKED : w.of(above, CLASS_LINKED);
                if (status == 0) {
                    return above;
                }
                if (status != WELL_LINKED) {
                    w.set(x, CLASS_LINKED, status);
                    return -1;
                }
            }
            return -1;
        }

        /** Rules 24, 20 .. 23 of a class. */
        private int headFault(World w, int x) {
            if ((w.allAbove(x, true) >> x & 1) != 0) {
                return RULE24;
            }
            int parent = w.toldParent(x);
            if (parent < 0) {
                return RULE20;
            }
            if (w.asks(3) && (w.of(parent, CLASS_FLAGS) & (FACE_CLASS | FINAL_CLASS)) != 0) {
                return RULE21;
            }
            for (int i = 0; i < w.of(x, CLASS_FACES); i++) {
                int face = w.face(x, i);
                if (face < 0 || !w.isFace(face)) {
                    return face < 0 ? RULE22 : RULE23;
                }
            }
            return 0;
        }

        private boolean hasFinalAbove(World w, int x) {
            for (int k = 0; k < w.of(x, CLASS_METHODS); k++) {
                int sign = w.method(x, k, METHOD_SIGN);
                int name = names.nameOf(sign);
                boolean own = (w.method(x, k, METHOD_FLAGS) & (PRIVATE | STATIC)) != 0;
                int c = own || name == MAKE || name == START ? -1 : w.up(x);
                for (int i = 0; i < CLASSES_MOST && c >= 0; i++) {
                    int m = w.methodWith(c, sign);
                    if (m >= 0 && (w.method(c, m, METHOD_FLAGS) & (FINAL | PRIVATE | STATIC)) == FINAL) {
                        return true;
                    }
                    c = w.up(c);
                }
            }
            return false;
        }

        /** A class was CHECKED: WELL_LINKED (what is above it is known then), or the fault. */
        private int endCheck(World w, int x, int rule) {
            if (rule != 0) {
                w.wrongClass = x;
                w.wrongMethod = checker.spotMethod;
                w.wrongAt = checker.spot;
                return 100 * rule + CHECK_FAULT;
            }
            w.above[x] = w.allAbove(x, false) | 1L << x;
            giveSlots(w, x);
            orderFaces(w, x);
            return WELL_LINKED;
        }

        /** The fields of the class's objects have their places, behind those of the classes above. */
        private void giveSlots(World w, int x) {
            int parent = w.up(x);
            int slots = parent < 0 ? 0 : w.of(parent, CLASS_SLOTS);
            for (int k = 0; k < w.of(x, CLASS_FIELDS); k++) {
                if ((w.field(x, k, FIELD_FLAGS) & STATIC) == 0) {
                    w.fields.put(w.of(x, CLASS_FIELD0) + k * FIELD_WIDTH + FIELD_SLOT, slots);
                    slots++;
                }
            }
            w.set(x, CLASS_SLOTS, slots);
        }

        /** The faces above x in the order in which they are come to: its own, each before its own, then its parent's. */
        private void orderFaces(World w, int x) {
            int from = w.orders.size;
            long seen = 0;
            opened = 0;
            openFaces(w, x);
            for (int i = 0; i < CLASSES_MOST * FACES_MOST && opened > 0; i++) {
                opened--;
                int face = open[opened];
                if ((seen >> face & 1) == 0) {
                    seen |= 1L << face;
                    w.orders.add(face);
                    openFaces(w, face);
                }
            }
            w.set(x, CLASS_OWN_FACES, w.orders.size - from);
            int parent = w.up(x);
            for (int i = 0; parent >= 0 && i < w.of(parent, CLASS_ORDERS); i++) {
                int face = w.orders.row[w.of(parent, CLASS_ORDER0) + i];
                if ((seen >> face & 1) == 0) {
                    w.orders.add(face);
                }
            }
            w.set(x, CLASS_ORDER0, from);
            w.set(x, CLASS_ORDERS, w.orders.size - from);
        }

        /** The faces of c come to be looked at next, the first one first. */
        private void openFaces(World w, int c) {
            for (int i = w.of(c, CLASS_FACES) - 1; i >= 0 && opened < OPEN_MOST; i--) {
                int face = w.face(c, i);
                if (face >= 0) {
                    open[opened] = face;
                    opened++;
                }
            }
        }

        /** Class C: 50, and whether it is linked; 0, the fault, or LINK_FIRST when it has to be linked yet. */
        private int nameClass(World w, int name) {
            named = w.number(name);
            if (named < 0) {
                return RULE50;
            }
            int status = w.of(named, CLASS_LINKED);
            return status == 0 ? LINK_FIRST : status == WELL_LINKED ? 0 : status;
        }

        /** What an instruction names is found: 0, the fault, or LINK_FIRST. Others find nothing: 0. */
        int find(World w, int c, int m, int at) {
            int row = w.code(c, m, at);
            int[] codes = w.codes.row;
            int op = codes[row];
            if (op == OP_NEW) {
                return findNew(w, codes[row + CODE_A]);
            }
            if (op >= OP_FGET && op <= OP_SPUT) {
                return findField(w, c, m, row);
            }
            if (op >= OP_CALL && op <= OP_FACECALL) {
                return findMethod(w, c, op, codes[row + CODE_A], codes[row + CODE_B]);
            }
            boolean asksClass = op == OP_CAST || op == OP_IS;
            return asksClass && w.number(codes[row + CODE_A]) < 0 ? RULE50 : 0;
        }

        /** As find(), and C is linked if it was not. */
        int findNow(World w, int c, int m, int at) {
            int fault = find(w, c, m, at);
            if (fault == LINK_FIRST) {
                settle(w, named);
                fault = find(w, c, m, at);
            }
            return fault;
        }

        int findNew(World w, int name) {
            int fault = nameClass(w, name);
            cls = named;
            if (fault == 0 && w.asks(7) && (w.of(cls, CLASS_FLAGS) & (ABSTRACT_CLASS | FACE_CLASS)) != 0) {
                return RULE57;
            }
            return fault;
        }

        /** The field that an instruction of method m of class asker names; row: where its columns begin. */
        int findField(World w, int asker, int m, int row) {
            int[] codes = w.codes.row;
            int op = codes[row];
            int fault = nameClass(w, codes[row + CODE_A]);
            if (fault != 0) {
                return fault;
            }
            if (!seekField(w, codes[row + CODE_B], codes[row + CODE_C])) {
                return RULE51;
            }
            int flags = w.field(cls, member, FIELD_FLAGS);
            if ((flags & PRIVATE) != 0 && cls != asker && w.asks(5)) {
                return RULE53;
            }
            boolean ofObject = op == OP_FGET || op == OP_FPUT;
            if (ofObject ? (flags & STATIC) != 0 || w.isFace(cls) : (flags & STATIC) == 0) {
                return RULE55;
            }
            boolean puts = op == OP_FPUT || op == OP_SPUT;
            int by = names.nameOf(w.method(asker, m, METHOD_SIGN));
            boolean begins = cls == asker && by == (ofObject ? MAKE : START);
            return puts && (flags & FINAL) != 0 && !begins && w.asks(6) ? RULE54 : 0;
        }

        /** In the named class, else in its faces, else in its parent and so on. */
        private boolean seekField(World w, int name, int type) {
            int c = named;
            for (int i = 0; i < CLASSES_MOST && c >= 0; i++) {
                cls = c;
                member = w.fieldWith(c, name, type);
                for (int f = 0; f < w.of(c, CLASS_OWN_FACES) && member < 0; f++) {
                    cls = w.orders.row[w.of(c, CLASS_ORDER0) + f];
                    member = w.fieldWith(cls, name, type);
                }
                if (member >= 0) {
                    return true;
                }
                c = w.up(c);
            }
            return false;
        }

        /** The method that an instruction of class asker names (NO_METHOD: of none; ANYONE: of any). */
        int findMethod(World w, int asker, int op, int name, int sign) {
            int fault = nameClass(w, name);
            if (fault != 0) {
                return fault;
            }
            if ((op == OP_CALL && w.isFace(named)) || (op == OP_FACECALL && !w.isFace(named))) {
                return RULE56;
            }
            boolean make = names.nameOf(sign) == MAKE;
            if (!seekMethod(w, sign, make) && (make || !seekInFaces(w, named, sign, 0))) {
                return RULE52;
            }
            int flags = w.method(cls, member, METHOD_FLAGS);
            boolean isPrivate = (flags & PRIVATE) != 0;
            if (isPrivate && asker != ANYONE && cls != asker && w.asks(5)) {
                return RULE53;
            }
            if (((flags & STATIC) != 0) != (op == OP_STATIC)) {
                return RULE55;
            }
            boolean atOnce = op == OP_STATIC || op == OP_SPECIAL || isPrivate;
            return atOnce && (flags & ABSTRACT) != 0 ? RULE58 : 0;
        }

        /** Whether the method that was found has this flag. */
        boolean isFound(World w, int flag) {
            return (w.method(cls, member, METHOD_FLAGS) & flag) != 0;
        }

        /** In the named class, and unless in it alone in its parent and so on. */
        private boolean seekMethod(World w, int sign, boolean alone) {
            int c = named;
            for (int i = 0; i < CLASSES_MOST && c >= 0; i++) {
                cls = c;
                member = w.methodWith(c, sign);
                if (member >= 0) {
                    return true;
                }
                c = alone ? -1 : w.up(c);
            }
            return false;
        }

        /** In the faces above c: the first that is not abstract, else the first; those with these flags are passed over. */
        boolean seekInFaces(World w, int c, int sign, int passed) {
            member = -1;
            for (int i = 0; i < w.of(c, CLASS_ORDERS); i++) {
                int face = w.orders.row[w.of(c, CLASS_ORDER0) + i];
                int k = w.methodWith(face, sign);
                int flags = k < 0 ? 0 : w.method(face, k, METHOD_FLAGS);
                boolean whole = (flags & ABSTRACT) == 0;
                if (k >= 0 && (flags & passed) == 0 && (member < 0 || whole)) {
                    cls = face;
                    member = k;
                    if (whole) {
                        return true;
                    }
                }
            }
            return member >= 0;
        }

        /** The first one from class c on up by parents that an object takes. */
        boolean seekForObject(World w, int c, int sign) {
            int x = c;
            for (int i = 0; i < CLASSES_MOST && x >= 0; i++) {
                cls = x;
                member = w.methodWith(x, sign);
                if (member >= 0 && (w.method(x, member, METHOD_FLAGS) & (STATIC | PRIVATE)) == 0) {
                    return true;
                }
                x = w.up(x);
            }
            return false;
        }

        /** What call and facecall take for an object of class c: 0, or rule 58. */
        private int select(World w, int c, int sign) {
            boolean there = seekForObject(w, c, sign) || seekInFaces(w, c, sign, STATIC | PRIVATE);
            return there && !isFound(w, ABSTRACT) ? 0 : RULE58;
        }

        /** Which method call takes for an object of class k, for one that may ask all: 0, or the fault. */
        int ask(World w, int name, int sign, int k) {
            int fault = findMethod(w, ANYONE, OP_CALL, name, sign);
            if (fault == LINK_FIRST) {
                settle(w, named);
                fault = findMethod(w, ANYONE, OP_CALL, name, sign);
            }
            if (fault != 0) {
                return fault;
            }
            fault = settle(w, k);
            return fault != 0 || isFound(w, PRIVATE) ? fault : select(w, k, sign);
        }

        /** The REACHED METHODS of a method come into the list: how many. */
        int reachFrom(World w, int c, int m) {
            reachList.size = 0;
            reachList.add(100 * c + m);
            for (int i = 0; i < reachList.size; i++) {
                int x = reachList.row[i] / 100;
                int k = reachList.row[i] % 100;
                for (int at = 0; at < w.method(x, k, METHOD_CODES); at++) {
                    reachBy(w, x, k, at);
                }
            }
            return reachList.size;
        }

        private void reachBy(World w, int x, int k, int at) {
            int row = w.code(x, k, at);
            int op = w.codes.row[row];
            boolean calls = op >= OP_CALL && op <= OP_FACECALL;
            boolean starts = op == OP_NEW || op == OP_STATIC || op == OP_SGET || op == OP_SPUT;
            if ((!calls && !starts) || findNow(w, x, k, at) != 0) {
                return;
            }
            int owner = cls;
            if ((op == OP_CALL || op == OP_FACECALL) && !isFound(w, PRIVATE)) {
                reachObjects(w, named, w.codes.row[row + CODE_B]);
            } else if (calls) {
                addReached(cls, member);
            }
            if (starts) {
                reachStarts(w, owner);
            }
        }

        /** What is called for an object of each class that is below this one. */
        private void reachObjects(World w, int above, int sign) {
            for (int c = 0; c < w.count; c++) {
                boolean whole = (w.of(c, CLASS_FLAGS) & (ABSTRACT_CLASS | FACE_CLASS)) == 0;
                boolean below = c == above || (w.allAbove(c, false) >> above & 1) != 0;
                if (whole && below && settle(w, c) == 0 && select(w, c, sign) == 0) {
                    addReached(cls, member);
                }
            }
        }

        private void reachStarts(World w, int owner) {
            int c = owner;
            for (int i = 0; i < CLASSES_MOST && c >= 0 && w.of(c, CLASS_STATE) != STATE_STARTED; i++) {
                int k = w.methodWith(c, names.startSign);
                if (k >= 0) {
                    addReached(c, k);
                }
                c = w.isFace(c) ? -1 : w.up(c);
            }
        }

        private void addReached(int c, int m) {
            int one = 100 * c + m;
            boolean there = c < BUILT_INS;
            for (int i = 0; i < reachList.size && !there; i++) {
                there = reachList.row[i] == one;
            }
            if (!there) {
                reachList.add(one);
            }
        }
    }

    /** The objects and rows of a world, and the faults that its machine made. */
    static final class Heap {
        static final int ROW_KIND = -1;
        private static final int FREE = -2;
        // By numbers from 1 on: an object's class, where its fields or elements begin, how many, its LOCKS.
        final int[] kind = new int[OBJECTS_MOST + 1];
        final int[] base = new int[OBJECTS_MOST + 1];
        final int[] length = new int[OBJECTS_MOST + 1];
        int[] data = new int[ELEMENTS_MOST];
        int objects = 0;
        int top = 0;
        private final int[] lock = new int[OBJECTS_MOST + 1];
        private int[] spare = new int[ELEMENTS_MOST];
        private int leastFree = 1;
        private int highest = 0;
        // Of faults of the machine: 100 times the rule and the class; their LOCKS.
        private final Ints faults = new Ints(16);
        private final Ints faultLocks = new Ints(16);
        // Of each number: whether it was touched since beginTouch(), 1 or 0.
        private final byte[] touched = new byte[OBJECTS_MOST + 1];
        private final int[] open = new int[OBJECTS_MOST + 1];
        private int opened = 0;

        Heap() {
            Arrays.fill(kind, FREE);
        }

        void restart() {
            for (int r = 0; r <= highest; r++) {
                kind[r] = FREE;
            }
            objects = 0;
            top = 0;
            leastFree = 1;
            highest = 0;
            faults.size = 0;
            faultLocks.size = 0;
        }

        boolean there(int r) {
            return r >= 1 && r <= OBJECTS_MOST && kind[r] != FREE;
        }

        /** A new object or row of so many fields or elements: its number, 0 when there is no room. */
        int make(int k, int size) {
            if (objects == OBJECTS_MOST || top + size > ELEMENTS_MOST) {
                return 0;
            }
            while (leastFree < OBJECTS_MOST && kind[leastFree] != FREE) {
                leastFree++;
            }
            int r = leastFree;
            kind[r] = k;
            base[r] = top;
            length[r] = size;
            lock[r] = 0;
            for (int i = 0; i < size; i++) {
                data[top] = 0;
                top++;
            }
            objects++;
            highest = Math.max(highest, r);
            return r;
        }

        /** A fault of the machine, told by 100 times the rule, and the class. */
        int makeFault(int code) {
            faultLocks.add(0);
            return NUMBERLESS + 1 + faults.add(code);
        }

        /** The class of what is referred to, ROW_KIND of a row. */
        int classOf(int reference) {
            int i = reference - NUMBERLESS - 1;
            if (i >= 0) {
                return i < faults.size ? faults.row[i] % 100 : 0;
            }
            return reference >= 1 && reference <= OBJECTS_MOST ? kind[reference] : ROW_KIND;
        }

        int ruleOf(int reference) {
            int i = reference - NUMBERLESS - 1;
            return i >= 0 && i < faults.size ? faults.row[i] / 100 : 0;
        }

        // LOCKS are kept as four times how many, and the thread.
        private int lockOf(int reference) {
            int i = reference - NUMBERLESS - 1;
            if (i >= 0) {
                return i < faultLocks.size ? faultLocks.row[i] : 0;
            }
            return reference >= 1 && reference <= OBJECTS_MOST ? lock[reference] : 0;
        }

        private void setLock(int reference, int v) {
            int i = reference - NUMBERLESS - 1;
            if (i >= 0 && i < faultLocks.size) {
                faultLocks.row[i] = v;
            } else if (reference >= 1 && reference <= OBJECTS_MOST) {
                lock[reference] = v;
            }
        }

        int locks(int reference) {
            return lockOf(reference) / 4;
        }

        boolean lockedByOther(int reference, int thread) {
            int v = lockOf(reference);
            return v >= 4 && v % 4 != thread;
        }

        void enter(int reference, int thread) {
            setLock(reference, lockOf(reference) / 4 * 4 + 4 + thread);
        }

        void leave(int reference) {
            setLock(reference, lockOf(reference) - 4);
        }

        void unlockAll() {
            Arrays.fill(lock, 0);
            Arrays.fill(faultLocks.row, 0);
        }

        boolean isElement(int reference, int i) {
            return reference >= 1 && reference <= OBJECTS_MOST && kind[reference] != FREE && i >= 0 && i < length[reference];
        }

        int get(int reference, int i) {
            return isElement(reference, i) ? data[base[reference] + i] : 0;
        }

        void put(int reference, int i, int v) {
            if (isElement(reference, i)) {
                data[base[reference] + i] = v;
            }
        }

        void beginTouch() {
            Arrays.fill(touched, (byte) 0);
            opened = 0;
        }

        void touch(int reference) {
            if (there(reference) && touched[reference] == 0) {
                touched[reference] = 1;
                open[opened] = reference;
                opened++;
            }
        }

        /** The next one touched whose fields were not looked at, 0 for none. */
        int nextTouched() {
            if (opened == 0) {
                return 0;
            }
            opened--;
            return open[opened];
        }

        /** What was not touched goes, and the data move together: how many went. */
        int dropUntouched() {
            int was = objects;
            int to = 0;
            for (int r = 1; r <= highest; r++) {
                if (kind[r] != FREE && touched[r] == 1) {
                    System.arraycopy(data, base[r], spare, to, length[r]);
                    base[r] = to;
                    to += length[r];
                } else if (kind[r] != FREE) {
                    kind[r] = FREE;
                    objects--;
                }
            }
            int[] old = data;
            data = spare;
            spare = old;
            top = to;
            leastFree = 1;
            return was - objects;
        }
    }

    /** A thread's run: what was called, its frames, the starts of classes that go on in it, and how it ended. */
    static final class Runner {
        static final int NO_RUN = 0;
        static final int ON = 1;
        static final int ENDED = 2;
        static final int LOST = 3;
        int callClass = 0;
        int callSign = 0;
        final int[] callNumbers = new int[ARGUMENTS_MOST];
        int mode = NO_RUN;
        int steps = 0;
        boolean waits = false;
        int endKind = 0;
        int endNumber = 0;
        int endClass = NO;
        int endRule = 0;
        int frames = 0;
        final int[] classOf = new int[FRAMES_MOST];
        final int[] methodOf = new int[FRAMES_MOST];
        final int[] at = new int[FRAMES_MOST];
        final int[] depth = new int[FRAMES_MOST];
        // Of each frame: the locals, behind them the stack.
        private final long[] places = new long[FRAMES_MOST * FRAME_PLACES];
        // Classes whose starts go on, and how many frames there were when each was begun.
        int starts = 0;
        final int[] startClass = new int[CLASSES_MOST];
        private final int[] startFrames = new int[CLASSES_MOST];

        void clear() {
            mode = NO_RUN;
            steps = 0;
            waits = false;
            endKind = 0;
            endNumber = 0;
            endClass = NO;
            endRule = 0;
            frames = 0;
            starts = 0;
        }

        void begin() {
            clear();
            mode = ON;
        }

        boolean on() {
            return mode == ON;
        }

        /** Whether the start begun latest has no frame of its own: it waits for a parent, or is to be run. */
        boolean startIsOpen() {
            return starts > 0 && startFrames[starts - 1] == frames;
        }

        void addStart(int c) {
            if (starts < CLASSES_MOST) {
                startClass[starts] = c;
                startFrames[starts] = frames;
                starts++;
            }
        }

        long local(int i) {
            return places[(frames - 1) * FRAME_PLACES + i];
        }

        void setLocal(int i, long v) {
            places[(frames - 1) * FRAME_PLACES + i] = v;
        }

        /** What is i below the top of the stack. */
        long fromTop(int i) {
            return places[(frames - 1) * FRAME_PLACES + PART_MOST + depth[frames - 1] - 1 - i];
        }

        long pop() {
            depth[frames - 1]--;
            return places[(frames - 1) * FRAME_PLACES + PART_MOST + depth[frames - 1]];
        }

        int popNumber() {
            return (int) pop();
        }

        void push(long v) {
            places[(frames - 1) * FRAME_PLACES + PART_MOST + depth[frames - 1]] = v;
            depth[frames - 1]++;
        }

        void pushNumber(int v) {
            push(v & NUMBER_BITS);
        }

        void pushReference(int reference) {
            push(REFERENCE | reference);
        }

        /** A frame more, its first locals from the stack of the one before. */
        void addFrame(int c, int m, int taken) {
            int to = frames * FRAME_PLACES;
            for (int i = 0; i < PART_MOST; i++) {
                places[to + i] = 0;
            }
            if (frames > 0 && taken > 0) {
                int from = (frames - 1) * FRAME_PLACES + PART_MOST + depth[frames - 1] - taken;
                System.arraycopy(places, from, places, to, taken);
                depth[frames - 1] -= taken;
            }
            classOf[frames] = c;
            methodOf[frames] = m;
            at[frames] = 0;
            depth[frames] = 0;
            frames++;
        }

        /** All that the frames' locals and stacks refer to is touched. */
        void touchPlaces(Heap heap) {
            for (int f = 0; f < frames; f++) {
                for (int i = 0; i < PART_MOST + depth[f]; i++) {
                    long v = places[f * FRAME_PLACES + i];
                    if ((v & REFERENCE) != 0) {
                        heap.touch((int) v);
                    }
                }
            }
        }
    }

    /** Runs of a world's threads, step by step. */
    static final class Machine {
        // What a thread does next.
        private static final int WAIT = 0;
        private static final int LINK = 1;
        private static final int BEGIN_START = 2;
        private static final int RUN_START = 3;
        private static final int BREAK_START = 4;
        private static final int OPEN_RUN = 5;
        private static final int LOSE_RUN = 6;
        private static final int DO_STEP = 7;
        final World world;
        final Heap heap = new Heap();
        final Runner[] runs = new Runner[THREADS];
        final int[] counts = new int[OPS];
        final int[] traceRow = new int[TRACE_MOST * TRACE_WIDTH];
        int traceCount = 0;
        final int[] startedList = new int[CLASSES_MOST];
        int startedCount = 0;
        int present = 0;
        int quantum = QUANTUM_FIRST;
        int stepsDone = 0;
        private int turnSteps = 0;
        private int turnMost = QUANTUM_FIRST;
        private boolean turnOver = false;
        private final Finder finder;
        private final Names names;
        // Of what is planned: the fault of the finding (0 for none), the class to be linked or started.
        private int fault = 0;
        private int wanted = 0;
        private int thrown = 0;

        Machine(World w, Finder f, Names n) {
            world = w;
            finder = f;
            names = n;
            for (int t = 0; t < THREADS; t++) {
                runs[t] = new Runner();
            }
        }

        void restart(int breaks) {
            world.restart(breaks);
            heap.restart();
            Arrays.fill(counts, 0);
            traceCount = 0;
            startedCount = 0;
            quantum = QUANTUM_FIRST;
            for (int t = 0; t < THREADS; t++) {
                runs[t].clear();
            }
            firstTurn();
        }

        private void firstTurn() {
            present = 0;
            newTurn(0);
        }

        private void newTurn(int thread) {
            present = thread;
            turnSteps = 0;
            turnMost = quantum;
            turnOver = false;
        }

        boolean anyRun() {
            return runs[0].mode != Runner.NO_RUN || runs[1].mode != Runner.NO_RUN || runs[2].mode != Runner.NO_RUN;
        }

        int howManyOn() {
            return (runs[0].on() ? 1 : 0) + (runs[1].on() ? 1 : 0) + (runs[2].on() ? 1 : 0);
        }

        int stopAll() {
            int on = howManyOn();
            for (int t = 0; t < THREADS; t++) {
                for (int i = 0; i < runs[t].starts; i++) {
                    world.set(runs[t].startClass[i], CLASS_STATE, STATE_FAILED);
                }
                runs[t].clear();
            }
            heap.unlockAll();
            firstTurn();
            return on;
        }

        /** What run() tells of a thread at first: 4 if it was found to wait, and would still. */
        int stateOf(int thread) {
            Runner r = runs[thread];
            if (r.mode == Runner.NO_RUN) {
                return NO;
            }
            if (!r.on()) {
                return r.mode == Runner.ENDED ? 0 : 2;
            }
            return r.waits && plan(thread) == WAIT ? 4 : 1;
        }

        /** Up to n steps are done: 0 none is on any more, 1 they are cut, 3 they are STUCK. */
        int go(int n) {
            stepsDone = 0;
            for (int i = 0; i < TURNS_MOST; i++) {
                if (howManyOn() == 0) {
                    return 0;
                }
                if (stepsDone >= n) {
                    return 1;
                }
                boolean ended = turnOver || turnSteps >= turnMost;
                int action = WAIT;
                int thread = present;
                // 0 is the present turn; behind it the next ones by number, at last the present one's new turn.
                for (int k = ended ? 1 : 0; k <= THREADS && action == WAIT; k++) {
                    thread = (present + k) % THREADS;
                    action = runs[thread].on() ? plan(thread) : WAIT;
                    if (action == LINK) {
                        finder.settle(world, wanted);
                        action = plan(thread);
                    }
                    runs[thread].waits = action == WAIT;
                    ended = ended || k > 0;
                }
                if (action == WAIT) {
                    turnOver = true;
                    return 3;
                }
                if (ended) {
                    newTurn(thread);
                }
                if (action == DO_STEP) {
                    oneStep(runs[thread], thread);
                } else {
                    act(thread, action);
                }
                turnOver = turnOver || !runs[thread].on();
            }
            return 1;
        }

        /** What a thread does next; nothing is changed by asking. */
        private int plan(int thread) {
            Runner r = runs[thread];
            fault = 0;
            if (r.startIsOpen()) {
                return planStart(r, thread);
            }
            return r.frames == 0 ? planRun(r, thread) : planStep(r, thread);
        }

        private int planStart(Runner r, int thread) {
            int c = r.startClass[r.starts - 1];
            int parent = world.isFace(c) ? 0 : Math.max(world.up(c), 0);
            int action = planStartOf(parent, thread, RUN_START, BREAK_START);
            if (action == RUN_START && r.frames == FRAMES_MOST && world.methodWith(c, names.startSign) >= 0) {
                // no frame for it: the start has thrown, and not below LinkFault
                fault = START_FAULT;
                return BREAK_START;
            }
            return action;
        }

        /** What is next when a class is to be started: its start, to wait, or what these two tell. */
        private int planStartOf(int c, int thread, int whenDone, int whenFailed) {
            int state = world.of(c, CLASS_STATE);
            if (state == STATE_NEW) {
                wanted = c;
                return BEGIN_START;
            }
            if (state == STATE_GOES_ON && world.of(c, CLASS_THREAD) != thread) {
                return WAIT;
            }
            fault = state == STATE_FAILED ? CLASS_FAULT : 0;
            return state == STATE_FAILED ? whenFailed : whenDone;
        }

        private int planRun(Runner r, int thread) {
            fault = finder.findMethod(world, NO_METHOD, OP_STATIC, r.callClass, r.callSign);
            if (fault == LINK_FIRST) {
                wanted = finder.named;
                return LINK;
            }
            return fault != 0 ? LOSE_RUN : planStartOf(finder.cls, thread, OPEN_RUN, LOSE_RUN);
        }

        private int planStep(Runner r, int thread) {
            int top = r.frames - 1;
            int row = world.code(r.classOf[top], r.methodOf[top], r.at[top]);
            int[] codes = world.codes.row;
            int op = codes[row];
            if (op == OP_ENTER) {
                return heap.lockedByOther((int) r.fromTop(0), thread) ? WAIT : DO_STEP;
            }
            if (op == OP_NEW) {
                fault = finder.findNew(world, codes[row + CODE_A]);
            } else if (op >= OP_FGET && op <= OP_SPUT) {
                fault = finder.findField(world, r.classOf[top], r.methodOf[top], row);
            } else if (op >= OP_CALL && op <= OP_FACECALL) {
                fault = finder.findMethod(world, r.classOf[top], op, codes[row + CODE_A], codes[row + CODE_B]);
            } else if ((op == OP_CAST || op == OP_IS) && (int) r.fromTop(0) != 0) {
                fault = world.number(codes[row + CODE_A]) < 0 ? RULE50 : 0;
            }
            if (fault == LINK_FIRST) {
                wanted = finder.named;
                return LINK;
            }
            boolean starts = op == OP_NEW || op == OP_SGET || op == OP_SPUT || op == OP_STATIC;
            return fault == 0 && starts ? planStartOf(finder.cls, thread, DO_STEP, DO_STEP) : DO_STEP;
        }

        private void act(int thread, int action) {
            Runner r = runs[thread];
            switch (action) {
                case BEGIN_START:
                    beginStart(r, thread);
                    break;
                case RUN_START:
                    runStart(r, thread);
                    break;
                case BREAK_START:
                    breakOpenStarts(r, thread);
                    throwAt(r, thread, heap.makeFault(fault));
                    break;
                case OPEN_RUN:
                    openRun(r, thread);
                    break;
                case LOSE_RUN:
                    lose(r, heap.makeFault(fault));
                    break;
                default:
                    break;
            }
        }

        private void mark(int what, int thread, int c, int m) {
            if (traceCount < TRACE_MOST) {
                int row = traceCount * TRACE_WIDTH;
                traceRow[row] = what;
                traceRow[row + 1] = thread;
                traceRow[row + 2] = c;
                traceRow[row + 3] = m;
                traceRow[row + 4] = runs[thread].steps;
                traceCount++;
            }
        }

        private void markFrame(int what, int thread) {
            Runner r = runs[thread];
            mark(what, thread, r.classOf[r.frames - 1], r.methodOf[r.frames - 1]);
        }

        private void beginStart(Runner r, int thread) {
            world.set(wanted, CLASS_STATE, STATE_GOES_ON);
            world.set(wanted, CLASS_THREAD, thread);
            startedList[startedCount] = wanted;
            startedCount++;
            mark(4, thread, wanted, NO);
            for (int k = 0; k < world.of(wanted, CLASS_FIELDS); k++) {
                if (world.field(wanted, k, FIELD_TOLD) != 0) {
                    setFixed(wanted, k, world.field(wanted, k, FIELD_NUMBER));
                }
            }
            r.addStart(wanted);
        }

        private void setFixed(int c, int k, int v) {
            world.fields.put(world.of(c, CLASS_FIELD0) + k * FIELD_WIDTH + FIELD_VALUE, v);
        }

        private void runStart(Runner r, int thread) {
            int c = r.startClass[r.starts - 1];
            int m = world.methodWith(c, names.startSign);
            if (m < 0) {
                endStart(r, thread, STATE_STARTED);
            } else {
                r.addFrame(c, m, 0);
                markFrame(1, thread);
            }
        }

        private void endStart(Runner r, int thread, int state) {
            r.starts--;
            int c = r.startClass[r.starts];
            world.set(c, CLASS_STATE, state);
            mark(state == STATE_STARTED ? 5 : 6, thread, c, NO);
        }

        /** Starts that wait in this frame for what has thrown fail with it. */
        private void breakOpenStarts(Runner r, int thread) {
            for (int i = 0; i < CLASSES_MOST && r.startIsOpen(); i++) {
                endStart(r, thread, STATE_FAILED);
            }
        }

        private void openRun(Runner r, int thread) {
            r.addFrame(finder.cls, finder.member, 0);
            int n = names.argumentsOf(r.callSign);
            for (int i = 0; i < n; i++) {
                r.setLocal(i, r.callNumbers[i] & NUMBER_BITS);
            }
            markFrame(1, thread);
        }

        private void lose(Runner r, int reference) {
            r.mode = Runner.LOST;
            r.endClass = heap.classOf(reference);
            r.endRule = heap.ruleOf(reference);
        }

        /** A reference is thrown at the instruction where the uppermost frame stands, or out of the run. */
        private void throwAt(Runner r, int thread, int reference) {
            int what = reference;
            for (int i = 0; i < FRAMES_MOST && r.frames > 0; i++) {
                int handler = handlerFor(r, heap.classOf(what));
                if (handler >= 0) {
                    r.depth[r.frames - 1] = 0;
                    r.pushReference(what);
                    r.at[r.frames - 1] = world.handlers.row[handler + HANDLER_GOAL];
                    markFrame(7, thread);
                    return;
                }
                markFrame(3, thread);
                boolean start = inStart(r);
                r.frames--;
                if (start) {
                    endStart(r, thread, STATE_FAILED);
                    if (!world.below(heap.classOf(what), LINK_FAULT)) {
                        what = heap.makeFault(START_FAULT);
                    }
                    breakOpenStarts(r, thread);
                }
            }
            lose(r, what);
        }

        private boolean inStart(Runner r) {
            int top = r.frames - 1;
            return world.method(r.classOf[top], r.methodOf[top], METHOD_SIGN) == names.startSign;
        }

        private int handlerFor(Runner r, int c) {
            int top = r.frames - 1;
            int first = world.method(r.classOf[top], r.methodOf[top], METHOD_HANDLER0);
            int count = world.method(r.classOf[top], r.methodOf[top], METHOD_HANDLERS);
            for (int i = 0; i < count; i++) {
                int handler = first + i * HANDLER_WIDTH;
                int[] row = world.handlers.row;
                if (row[handler] <= r.at[top] && r.at[top] < row[handler + HANDLER_TO]) {
                    int name = row[handler + HANDLER_CLASS];
                    int taken = world.number(name);
                    if (name == ANY || (taken >= 0 && world.below(c, taken))) {
                        return handler;
                    }
                }
            }
            return -1;
        }

        private void oneStep(Runner r, int thread) {
            int top = r.frames - 1;
            int row = world.code(r.classOf[top], r.methodOf[top], r.at[top]);
            int op = world.codes.row[row];
            r.steps++;
            stepsDone++;
            turnSteps++;
            counts[op]++;
            if (fault == 0) {
                fault = perform(r, thread, row);
            }
            if (fault != 0) {
                throwAt(r, thread, fault == THROWN ? thrown : heap.makeFault(fault));
            }
        }

        /** An instruction is done: 0, or the fault, or THROWN. */
        private int perform(Runner r, int thread, int row) {
            int op = world.codes.row[row];
            int top = r.frames - 1;
            if (op >= OP_CALL && op <= OP_FACECALL) {
                return enterMethod(r, thread, row);
            }
            if (op >= OP_DONE && op <= OP_RDONE) {
                endFrame(r, thread, op);
                return 0;
            }
            if (op >= OP_JUMP && op <= OP_PICK) {
                int goal = op == OP_PICK ? picked(r, row) : jumps(r, op) ? world.codes.row[row + CODE_A] : -1;
                r.at[top] = goal < 0 ? r.at[top] + 1 : goal;
                return 0;
            }
            int end;
            if (op < OP_ADD || (op >= OP_POP && op <= OP_SWAP)) {
                end = move(r, row);
            } else if (op <= OP_SHR) {
                end = reckon(r, op);
            } else if (op >= OP_FGET && op <= OP_SPUT) {
                end = useField(r, op);
            } else if (op <= OP_SIZE) {
                end = useRow(r, op);
            } else {
                end = useObject(r, thread, row);
            }
            r.at[top] += end == 0 ? 1 : 0;
            return end;
        }

        private int move(Runner r, int row) {
            int a = world.codes.row[row + CODE_A];
            switch (world.codes.row[row]) {
                case OP_NUM:
                    r.pushNumber(a);
                    break;
                case OP_NULL:
                    r.pushReference(0);
                    break;
                case OP_NLOAD:
                case OP_RLOAD:
                    r.push(r.local(a));
                    break;
                case OP_NSTORE:
                case OP_RSTORE:
                    r.setLocal(a, r.pop());
                    break;
                case OP_INC:
                    r.setLocal(a, ((int) r.local(a) + world.codes.row[row + CODE_B]) & NUMBER_BITS);
                    break;
                case OP_POP:
                    r.pop();
                    break;
                case OP_DUP:
                    r.push(r.fromTop(0));
                    break;
                case OP_DUPX:
                case OP_SWAP:
                    turn(r, world.codes.row[row]);
                    break;
                default:
                    break;
            }
            return 0;
        }

        private static void turn(Runner r, int op) {
            long upper = r.pop();
            long lower = r.pop();
            r.push(upper);
            r.push(lower);
            if (op == OP_DUPX) {
                r.push(upper);
            }
        }

        private static int reckon(Runner r, int op) {
            int b = r.popNumber();
            int a = op == OP_NEG ? 0 : r.popNumber();
            if ((op == OP_DIV || op == OP_REM) && b == 0) {
                return ZERO_FAULT;
            }
            r.pushNumber(reckoned(op, a, b));
            return 0;
        }

        private static int reckoned(int op, int a, int b) {
            switch (op) {
                case OP_ADD:
                    return a + b;
                case OP_SUB:
                case OP_NEG:
                    return a - b;
                case OP_MUL:
                    return a * b;
                case OP_DIV:
                    return b == 0 ? 0 : a / b;
                case OP_REM:
                    return b == 0 ? 0 : a % b;
                case OP_AND:
                    return a & b;
                case OP_OR:
                    return a | b;
                case OP_XOR:
                    return a ^ b;
                case OP_SHL:
                    return a << (b & 31);
                default:
                    return a >> (b & 31);
            }
        }

        private static boolean jumps(Runner r, int op) {
            if (op == OP_JUMP) {
                return true;
            }
            if (op < OP_EQ) {
                return holds(op - OP_IF0, r.popNumber(), 0);
            }
            if (op < OP_ISNULL) {
                int b = r.popNumber();
                return holds(op - OP_EQ, r.popNumber(), b);
            }
            int reference = r.popNumber();
            int other = op < OP_SAME ? 0 : r.popNumber();
            boolean asked = op == OP_ISNULL || op == OP_SAME;
            return (reference == other) == asked;
        }

        private static boolean holds(int which, int a, int b) {
            switch (which) {
                case 0:
                    return a == b;
                case 1:
                    return a != b;
                case 2:
                    return a < b;
                case 3:
                    return a >= b;
                case 4:
                    return a > b;
                default:
                    return a <= b;
            }
        }

        private int picked(Runner r, int row) {
            int[] codes = world.codes.row;
            long i = (long) r.popNumber() - codes[row + CODE_A];
            int last = codes[row + CODE_C] - 1;
            int taken = i < 0 || i > last ? last : (int) i;
            return world.extra.row[codes[row + CODE_B] + taken];
        }

        private int useRow(Runner r, int op) {
            int value = op == OP_PUT ? r.popNumber() : 0;
            int index = op == OP_GET || op == OP_PUT || op == OP_NEWROW ? r.popNumber() : 0;
            if (op == OP_NEW) {
                int made = heap.make(finder.cls, world.of(finder.cls, CLASS_SLOTS));
                r.pushReference(made);
                return made == 0 ? ROOM_FAULT : 0;
            }
            if (op == OP_NEWROW) {
                int made = index < 0 || index > ROW_MOST ? 0 : heap.make(Heap.ROW_KIND, index);
                r.pushReference(made);
                return index < 0 ? SIZE_FAULT : made == 0 ? ROOM_FAULT : 0;
            }
            int row = r.popNumber();
            if (row == 0) {
                return NULL_FAULT;
            }
            if (op == OP_SIZE) {
                r.pushNumber(heap.there(row) ? heap.length[row] : 0);
                return 0;
            }
            if (!heap.isElement(row, index)) {
                return PLACE_FAULT;
            }
            if (op == OP_GET) {
                r.pushNumber(heap.get(row, index));
            } else {
                heap.put(row, index, value);
            }
            return 0;
        }

        private int useField(Runner r, int op) {
            int c = finder.cls;
            int k = finder.member;
            int value = op == OP_FPUT || op == OP_SPUT ? r.popNumber() : 0;
            int slot = world.field(c, k, FIELD_SLOT);
            boolean isNumber = world.field(c, k, FIELD_TYPE) == NUM;
            if (op == OP_SPUT) {
                setFixed(c, k, value);
                return 0;
            }
            if (op == OP_SGET) {
                value = world.field(c, k, FIELD_VALUE);
            } else {
                int object = r.popNumber();
                if (object == 0) {
                    return NULL_FAULT;
                }
                if (op == OP_FPUT) {
                    heap.put(object, slot, value);
                    return 0;
                }
                value = heap.get(object, slot);
            }
            if (isNumber) {
                r.pushNumber(value);
            } else {
                r.pushReference(value);
            }
            return 0;
        }

        private int useObject(Runner r, int thread, int row) {
            int op = world.codes.row[row];
            int object = r.popNumber();
            if (op == OP_CAST || op == OP_IS) {
                boolean is = object != 0 && isOf(object, world.number(world.codes.row[row + CODE_A]));
                if (op == OP_IS) {
                    r.pushNumber(is ? 1 : 0);
                    return 0;
                }
                r.pushReference(object);
                return object == 0 || is ? 0 : CAST_FAULT;
            }
            if (object == 0) {
                return NULL_FAULT;
            }
            if (op == OP_THROW) {
                thrown = object;
                return THROWN;
            }
            if (op == OP_ENTER) {
                heap.enter(object, thread);
                return 0;
            }
            if (heap.locks(object) == 0 || heap.lockedByOther(object, thread)) {
                return LOCK_FAULT;
            }
            heap.leave(object);
            return 0;
        }

        private boolean isOf(int reference, int c) {
            int own = heap.classOf(reference);
            return own == Heap.ROW_KIND ? c == 0 : c >= 0 && world.below(own, c);
        }

        /** A method is called: which one is found, or taken by the object; a frame more. */
        private int enterMethod(Runner r, int thread, int row) {
            int op = world.codes.row[row];
            int sign = world.codes.row[row + CODE_B];
            int taken = names.argumentsOf(sign) + (op == OP_STATIC ? 0 : 1);
            if (op != OP_STATIC) {
                int object = (int) r.fromTop(taken - 1);
                if (object == 0) {
                    return NULL_FAULT;
                }
                if (op != OP_SPECIAL && !finder.isFound(world, PRIVATE)) {
                    int own = heap.classOf(object);
                    if (op == OP_FACECALL && (own < 0 || !world.below(own, finder.named))) {
                        return RULE59;
                    }
                    boolean there = own >= 0 && (finder.seekForObject(world, own, sign)
                        || finder.seekInFaces(world, own, sign, STATIC | PRIVATE));
                    if (!there || finder.isFound(world, ABSTRACT)) {
                        return RULE58;
                    }
                }
            }
            int top = r.frames - 1;
            if (finder.cls < BUILT_INS) {
                // a built-in class's <make> does nothing
                r.pop();
                r.at[top]++;
                return 0;
            }
            if (r.frames == FRAMES_MOST) {
                return DEEP_FAULT;
            }
            r.addFrame(finder.cls, finder.member, taken);
            markFrame(1, thread);
            return 0;
        }

        private void endFrame(Runner r, int thread, int op) {
            long value = op == OP_DONE ? 0 : r.pop();
            markFrame(2, thread);
            boolean start = inStart(r);
            r.frames--;
            if (start) {
                endStart(r, thread, STATE_STARTED);
            } else if (r.frames == 0) {
                endRun(r, op, (int) value);
            } else {
                if (op != OP_DONE) {
                    r.push(value);
                }
                r.at[r.frames - 1]++;
            }
        }

        private void endRun(Runner r, int op, int value) {
            r.mode = Runner.ENDED;
            if (op == OP_NDONE) {
                r.endKind = 1;
                r.endNumber = value;
            } else if (op == OP_RDONE) {
                int c = heap.classOf(value);
                r.endKind = value == 0 ? 2 : c == Heap.ROW_KIND ? 3 : 4;
                r.endClass = r.endKind == 4 ? c : NO;
            }
        }

        boolean slotIsNumber(int r, int i) {
            int c = heap.kind[r];
            for (int n = 0; n < CLASSES_MOST && c >= 0; n++) {
                for (int k = 0; k < world.of(c, CLASS_FIELDS); k++) {
                    boolean here = world.field(c, k, FIELD_SLOT) == i && isOfObject(c, k);
                    if (here) {
                        return world.field(c, k, FIELD_TYPE) == NUM;
                    }
                }
                c = world.up(c);
            }
            return true;
        }

        private boolean isOfObject(int c, int k) {
            return (world.field(c, k, FIELD_FLAGS) & STATIC) == 0;
        }

        /** Objects and rows that are not reached are COLLECTED: how many. */
        int sweep() {
            heap.beginTouch();
            for (int c = BUILT_INS; c < world.count; c++) {
                for (int k = 0; k < world.of(c, CLASS_FIELDS); k++) {
                    if (world.field(c, k, FIELD_TYPE) != NUM) {
                        heap.touch(world.field(c, k, FIELD_VALUE));
                    }
                }
            }
            for (int t = 0; t < THREADS; t++) {
                runs[t].touchPlaces(heap);
            }
            int r = heap.nextTouched();
            for (int i = 0; i < OBJECTS_MOST && r != 0; i++) {
                touchFields(r);
                r = heap.nextTouched();
            }
            return heap.dropUntouched();
        }

        private void touchFields(int r) {
            int c = heap.kind[r];
            for (int n = 0; n < CLASSES_MOST && c >= 0; n++) {
                for (int k = 0; k < world.of(c, CLASS_FIELDS); k++) {
                    if (isOfObject(c, k) && world.field(c, k, FIELD_TYPE) != NUM) {
                        heap.touch(heap.get(r, world.field(c, k, FIELD_SLOT)));
                    }
                }
                c = world.up(c);
            }
        }
    }

    /** Writes classes as texts, and tells how they differ. */
    static final class Writer {
        final Ints out = new Ints(512);
        private final Names names;
        private World world;
        private int cls = 0;
        private int method = 0;
        // Whether a blank comes before the next word.
        private boolean open = false;
        // Of each instruction, and the end: the number of its label, -1 for none.
        private final int[] labels = new int[CODES_MOST + 1];

        Writer(Names n) {
            names = n;
            world = null;
        }

        /** Class c is WRITTEN: how many bytes. */
        int write(World w, int c) {
            world = w;
            cls = c;
            out.size = 0;
            writeHead();
            for (int k = 0; k < w.of(c, CLASS_FIELDS); k++) {
                writeField(k);
            }
            for (int k = 0; k < w.of(c, CLASS_METHODS); k++) {
                method = k;
                writeMethod();
            }
            beginLine(0);
            word(KEY_END);
            endLine();
            return out.size;
        }

        private void beginLine(int blanks) {
            for (int i = 0; i < blanks; i++) {
                out.add(BLANK);
            }
            open = false;
        }

        private void endLine() {
            out.add(LINE_END);
        }

        private void beforeWord() {
            if (open) {
                out.add(BLANK);
            }
            open = true;
        }

        private void word(int id) {
            beforeWord();
            for (int i = 0; i < names.length(id); i++) {
                out.add(names.letter(id, i));
            }
        }

        private void sign(char c) {
            if (c == '=') {
                beforeWord();
            }
            out.add(c);
            open = c != '(' && c != '.';
        }

        private void number(int v) {
            beforeWord();
            digits(v);
        }

        private void digits(int v) {
            long rest = v;
            if (rest < 0) {
                out.add('-');
                rest = -rest;
            }
            boolean begun = false;
            for (long unit = 1000000000; unit > 0; unit /= 10) {
                begun = begun || rest >= unit || unit == 1;
                if (begun) {
                    out.add((int) ('0' + rest / unit % 10));
                }
            }
        }

        private void flag(int flags, int bit, int key) {
            if ((flags & bit) != 0) {
                word(key);
            }
        }

        private void writeHead() {
            int flags = world.of(cls, CLASS_FLAGS);
            beginLine(0);
            flag(flags, FINAL_CLASS, KEY_FINAL);
            flag(flags, ABSTRACT_CLASS, KEY_ABSTRACT);
            flag(flags, FACE_CLASS, KEY_FACE);
            word(KEY_CLASS);
            word(world.of(cls, CLASS_NAME));
            sign(':');
            word(world.of(cls, CLASS_PARENT));
            for (int i = 0; i < world.of(cls, CLASS_FACES); i++) {
                sign(',');
                word(world.of(cls, CLASS_FACE0 + i));
            }
            endLine();
        }

        private void writeField(int k) {
            int flags = world.field(cls, k, FIELD_FLAGS);
            beginLine(1);
            word(KEY_FIELD);
            flag(flags, STATIC, KEY_STATIC);
            flag(flags, FINAL, KEY_FINAL);
            flag(flags, PRIVATE, KEY_PRIVATE);
            word(world.field(cls, k, FIELD_NAME));
            word(world.field(cls, k, FIELD_TYPE));
            if (world.field(cls, k, FIELD_TOLD) != 0) {
                sign('=');
                number(world.field(cls, k, FIELD_NUMBER));
            }
            endLine();
        }

        private void writeMethod() {
            int flags = world.method(cls, method, METHOD_FLAGS);
            beginLine(1);
            word(KEY_METHOD);
            flag(flags, STATIC, KEY_STATIC);
            flag(flags, FINAL, KEY_FINAL);
            flag(flags, PRIVATE, KEY_PRIVATE);
            flag(flags, ABSTRACT, KEY_ABSTRACT);
            writeSign(world.method(cls, method, METHOD_SIGN));
            endLine();
            if ((flags & ABSTRACT) != 0) {
                return;
            }
            beginLine(2);
            word(KEY_ROOM);
            number(world.method(cls, method, METHOD_STACK));
            number(world.method(cls, method, METHOD_LOCALS));
            endLine();
            numberLabels();
            int codes = world.method(cls, method, METHOD_CODES);
            for (int at = 0; at < codes; at++) {
                writeCode(at);
            }
            if (labels[codes] >= 0) {
                beginLine(2);
                label(codes);
                sign(':');
                endLine();
            }
            writeHandlers();
        }

        private void writeSign(int sign) {
            word(names.nameOf(sign));
            sign('(');
            for (int i = 0; i < names.argumentsOf(sign); i++) {
                if (i > 0) {
                    sign(',');
                }
                word(names.typeOf(sign, i));
            }
            sign(')');
            word(names.resultOf(sign));
        }

        private int code(int at, int column) {
            return world.codes.row[world.code(cls, method, at) + column];
        }

        private int handler(int i, int column) {
            return world.handlers.row[world.method(cls, method, METHOD_HANDLER0) + i * HANDLER_WIDTH + column];
        }

        private void numberLabels() {
            int codes = world.method(cls, method, METHOD_CODES);
            Arrays.fill(labels, -1);
            for (int at = 0; at < codes; at++) {
                char form = FORMS.charAt(code(at, 0));
                if (form == 'L') {
                    labels[code(at, CODE_A)] = 0;
                }
                for (int i = 0; form == 'P' && i < code(at, CODE_C); i++) {
                    labels[world.extra.row[code(at, CODE_B) + i]] = 0;
                }
            }
            for (int i = 0; i < world.method(cls, method, METHOD_HANDLERS); i++) {
                labels[handler(i, 0)] = 0;
                labels[handler(i, HANDLER_TO)] = 0;
                labels[handler(i, HANDLER_GOAL)] = 0;
            }
            int next = 0;
            for (int at = 0; at <= codes; at++) {
                if (labels[at] == 0) {
                    labels[at] = next;
                    next++;
                }
            }
        }

        private void label(int at) {
            beforeWord();
            out.add('L');
            digits(labels[at]);
        }

        private void writeCode(int at) {
            if (code(at, CODE_FRAME) >= 0) {
                writeFrame(code(at, CODE_FRAME));
            }
            beginLine(2);
            if (labels[at] >= 0) {
                label(at);
                sign(':');
            }
            int op = code(at, 0);
            operation(op);
            char form = FORMS.charAt(op);
            if (form == 'L') {
                label(code(at, CODE_A));
            } else if (form == 'i' || form == 'j' || form == 'k' || form == 'P') {
                number(code(at, CODE_A));
            } else if (form != '-') {
                word(code(at, CODE_A));
            }
            if (form == 'j') {
                number(code(at, CODE_B));
            } else if (form == 'P') {
                writePicks(at);
            } else if (form == 'F') {
                sign('.');
                word(code(at, CODE_B));
                word(code(at, CODE_C));
            } else if (form == 'M') {
                sign('.');
                writeSign(code(at, CODE_B));
            }
            endLine();
        }

        private void operation(int op) {
            beforeWord();
            String row = op < OP_JUMP ? PLAIN_WORDS : op < OP_NEW ? BRANCH_WORDS : OBJECT_WORDS;
            int skip = op < OP_JUMP ? op : op < OP_NEW ? op - OP_JUMP : op - OP_NEW;
            for (int i = 0; i < row.length() && skip >= 0; i++) {
                if (row.charAt(i) == ' ') {
                    skip--;
                } else if (skip == 0) {
                    out.add(row.charAt(i));
                }
            }
        }

        private void writePicks(int at) {
            for (int i = 0; i < code(at, CODE_C); i++) {
                if (i > 0) {
                    sign(',');
                }
                label(world.extra.row[code(at, CODE_B) + i]);
            }
        }

        private void writeFrame(int frame) {
            int told = world.extra.row[frame];
            beginLine(2);
            word(KEY_FRAME);
            writeKinds(frame + 1, told);
            sign(';');
            writeKinds(frame + 2 + told, world.extra.row[frame + 1 + told]);
            endLine();
        }

        private void writeKinds(int from, int count) {
            for (int i = 0; i < count; i++) {
                if (i > 0) {
                    sign(',');
                }
                word(world.extra.row[from + i]);
            }
        }

        private void writeHandlers() {
            for (int i = 0; i < world.method(cls, method, METHOD_HANDLERS); i++) {
                beginLine(2);
                word(KEY_HANDLER);
                label(handler(i, 0));
                label(handler(i, HANDLER_TO));
                label(handler(i, HANDLER_GOAL));
                word(handler(i, HANDLER_CLASS));
                endLine();
            }
        }

        boolean sameHead(World a, int c, World b, int d) {
            boolean same = a.of(c, CLASS_FLAGS) == b.of(d, CLASS_FLAGS)
                && a.of(c, CLASS_PARENT) == b.of(d, CLASS_PARENT) && a.of(c, CLASS_FACES) == b.of(d, CLASS_FACES);
            for (int i = 0; i < FACES_MOST && same; i++) {
                same = i >= a.of(c, CLASS_FACES) || a.of(c, CLASS_FACE0 + i) == b.of(d, CLASS_FACE0 + i);
            }
            return same;
        }

        int fieldsAlone(World a, int c, World b, int d) {
            int alone = 0;
            for (int k = 0; k < a.of(c, CLASS_FIELDS); k++) {
                int other = b.fieldWith(d, a.field(c, k, FIELD_NAME), a.field(c, k, FIELD_TYPE));
                boolean same = other >= 0;
                for (int column = FIELD_FLAGS; column <= FIELD_NUMBER && same; column++) {
                    same = a.field(c, k, column) == b.field(d, other, column);
                }
                alone += same ? 0 : 1;
            }
            return alone;
        }

        int methodsAlone(World a, int c, World b, int d) {
            int alone = 0;
            for (int k = 0; k < a.of(c, CLASS_METHODS); k++) {
                alone += b.methodWith(d, a.method(c, k, METHOD_SIGN)) < 0 ? 1 : 0;
            }
            return alone;
        }

        int methodsOther(World a, int c, World b, int d) {
            int others = 0;
            for (int k = 0; k < a.of(c, CLASS_METHODS); k++) {
                int other = b.methodWith(d, a.method(c, k, METHOD_SIGN));
                others += other >= 0 && !sameMethod(a, a.of(c, CLASS_METHOD0) + k * METHOD_WIDTH,
                    b, b.of(d, CLASS_METHOD0) + other * METHOD_WIDTH) ? 1 : 0;
            }
            return others;
        }

        /** Whether two methods, told by where their columns begin, are WRITTEN alike. */
        private static boolean sameMethod(World a, int x, World b, int y) {
            int[] one = a.methods.row;
            int[] two = b.methods.row;
            boolean same = one[x + METHOD_FLAGS] == two[y + METHOD_FLAGS]
                && one[x + METHOD_STACK] == two[y + METHOD_STACK]
                && one[x + METHOD_LOCALS] == two[y + METHOD_LOCALS]
                && one[x + METHOD_CODES] == two[y + METHOD_CODES]
                && one[x + METHOD_HANDLERS] == two[y + METHOD_HANDLERS];
            for (int i = 0; same && i < one[x + METHOD_HANDLERS] * HANDLER_WIDTH; i++) {
                same = a.handlers.row[one[x + METHOD_HANDLER0] + i] == b.handlers.row[two[y + METHOD_HANDLER0] + i];
            }
            for (int i = 0; same && i < one[x + METHOD_CODES]; i++) {
                same = sameCode(a, one[x + METHOD_CODE0] + i * CODE_WIDTH, b, two[y + METHOD_CODE0] + i * CODE_WIDTH);
            }
            return same;
        }

        private static boolean sameCode(World a, int x, World b, int y) {
            int[] one = a.codes.row;
            int[] two = b.codes.row;
            boolean same = one[x] == two[y] && one[x + CODE_A] == two[y + CODE_A] && one[x + CODE_C] == two[y + CODE_C];
            if (!same || !sameFrame(a, one[x + CODE_FRAME], b, two[y + CODE_FRAME])) {
                return false;
            }
            if (one[x] != OP_PICK) {
                return one[x + CODE_B] == two[y + CODE_B];
            }
            return sameRow(a, one[x + CODE_B], b, two[y + CODE_B], one[x + CODE_C]);
        }

        private static boolean sameFrame(World a, int x, World b, int y) {
            if (x < 0 || y < 0) {
                return x < 0 && y < 0;
            }
            int told = a.extra.row[x];
            if (told != b.extra.row[y] || a.extra.row[x + 1 + told] != b.extra.row[y + 1 + told]) {
                return false;
            }
            return sameRow(a, x, b, y, 2 + told + a.extra.row[x + 1 + told]);
        }

        private static boolean sameRow(World a, int x, World b, int y, int count) {
            boolean same = true;
            for (int i = 0; i < count && same; i++) {
                same = a.extra.row[x + i] == b.extra.row[y + i];
            }
            return same;
        }
    }
}
