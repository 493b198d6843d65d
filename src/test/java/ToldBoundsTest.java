/** Sections 9, 11, 12, 14 and 15 and promises 4, 5 and 9 to 12: what is written, foretold, asked, traced, counted, collected, compared, reached. */
public final class ToldBoundsTest {
    private static final String MAKE = "|method <make>()none|room 1 1|rload 0|special Thing.<make>()none|done";

    public static void main(String[] args) {
        writtenWords();
        writtenFlags();
        writtenNumbers();
        writtenLabels();
        writtenOperations();
        writtenAtLength();
        readAgain();
        toldOfMembers();
        foretoldOperations();
        foretoldInOrder();
        foretoldNow();
        askedLines();
        askedInOrder();
        askedMethods();
        tracedEvents();
        tracedThreads();
        first400();
        countedOperations();
        countedThrows();
        reachedByRoots();
        leastFreeNumbers();
        keptByCollected();
        reachedByGot();
        collectedLocks();
        collectedFields();
        headsDiffer();
        fieldsDiffer();
        methodsDiffer();
        bodiesDiffer();
        reachedByOperations();
        reachedOfObjects();
        reachedStarts();
        reachedInOrder();
        Calls.end();
    }

    private static Calls world(String told) {
        return world(0, told);
    }

    private static Calls world(int breaks, String told) {
        Calls c = new Calls();
        c.x.world(breaks);
        Calls.due(told, Math.min(c.define(0, told.replace('|', '\n')), 1), 1);
        return c;
    }

    private static void written(String told, String due) {
        String text = due.replace('|', '\n') + "\n";
        Calls c = new Calls();
        c.x.world(7);
        c.goodIn(0, 1, told);
        Calls.same(told, printed(told), text);
        Calls.due("its length", c.x.print(0, 21), text.length());
        Calls.due("its last byte", c.x.written(text.length() - 1), 10);
        Calls.due("behind it", c.x.written(text.length()), -1);
        Calls.due("before it", c.x.written(-1), -1);
        // read in a world without it it is the same class
        c.x.world(7);
        c.goodIn(1, 1, due);
        Calls.same("again " + told, printed(due), text);
        for (int what = 0; what < 4; what++) {
            Calls.due("no difference " + what, c.x.differ(0, 21, 1, 21, what), 0);
            Calls.due("nor back " + what, c.x.differ(1, 21, 0, 21, what), 0);
        }
    }

    /** The class of a text as it is WRITTEN, 200 bytes from one object: a call tells one byte. */
    private static String printed(String told) {
        StringBuilder s = new StringBuilder();
        int size = 1;
        while (s.length() < size) {
            Calls c = new Calls();
            c.x.world(7);
            c.define(0, told.replace('|', '\n'));
            size = c.x.print(0, 21);
            for (int i = 0; i < 200 && s.length() < size; i++) {
                s.append((char) c.x.written(s.length()));
            }
        }
        return s.toString();
    }

    /** "one blank between words, none in front of , ; : ( ) . and none behind ( and . ; lines end with 10". */
    private static void writtenWords() {
        written("class   A:B#x||end", "class A: B|end");
        written("class A:B,C , D,E|end", "class A: B, C, D, E|end");
        written("class A:B|field   x   num|field y C|end", "class A: B| field x num| field y C|end");
        written("class A:B|method f( )none|room 1 2|nop|end", "class A: B| method f() none|  room 1 2|  nop|end");
        written("class A:B|method f(num,row,C)D|room 1 4|nop|end", "class A: B| method f(num, row, C) D|  room 1 4|  nop|end");
        written("class A:B|method <make>(num)none|room 1 2|nop|method static<start>()none|room 0 0|nop|end",
            "class A: B| method <make>(num) none|  room 1 2|  nop| method static <start>() none|  room 0 0|  nop|end");
        written("class A:B|method f()none|room 1 2|frame;|nop|frame num;|nop|frame ;row|nop|frame num,unset,unmade,null,C;row,null|nop|end",
            "class A: B| method f() none|  room 1 2|  frame;|  nop|  frame num;|  nop|  frame; row|  nop|  frame num, unset, unmade, null, C; row, null|  nop|end");
        // methods without bodies stand in their order, fields before them
        written("abstract class A:B|method abstract a()none|field x num|method b()none|room 0 1|nop|method abstract c()num|field y num|end",
            "abstract class A: B| field x num| field y num| method abstract a() none| method b() none|  room 0 1|  nop| method abstract c() num|end");
    }

    /** "its first line, FLAGS in the order of section 1"; those of fields and methods likewise. */
    private static void writtenFlags() {
        written("face final abstract class A:B|end", "final abstract face class A: B|end");
        written("face class A:B|end", "face class A: B|end");
        written("abstract final class A:B|end", "final abstract class A: B|end");
        written("face abstract class A:B|end", "abstract face class A: B|end");
        written("class A:B|field private final static x num|field final private y num|field private static z num|field static final w num|field private v num|end",
            "class A: B| field static final private x num| field final private y num| field static private z num| field static final w num| field private v num|end");
        written("abstract class A:B|method abstract private final static a()none|method private static b()none|room 0 1|nop|method private final c()none|room 0 1|nop|method final d()none|room 0 1|nop|method abstract e()none|end",
            "abstract class A: B| method static final private abstract a() none| method static private b() none|  room 0 1|  nop| method final private c() none|  room 0 1|  nop| method final d() none|  room 0 1|  nop| method abstract e() none|end");
    }

    /** NUMBERS as they are, however they were told. */
    private static void writtenNumbers() {
        int[] numbers = {0, 1, 9, 10, 99, 100, 1000000000, 1999999999, 2147483647, -1, -10, -2147483648, -2000000000};
        for (int n : numbers) {
            written("class A:B|field static x num = " + n + "|method f()none|room 20 19|num " + n + "|inc 19 " + n + "|L: pick " + n + " L|end",
                "class A: B| field static x num = " + n + "| method f() none|  room 20 19|  num " + n + "|  inc 19 " + n + "|  L0: pick " + n + " L0|end");
        }
        written("class A:B|field static x num=-0|field static y num=0000000012|method f()none|room 00 0001|num -0000000012|nload 007|inc 07 -00|end",
            "class A: B| field static x num = 0| field static y num = 12| method f() none|  room 0 1|  num -12|  nload 7|  inc 7 0|end");
    }

    /** "LABELS are L0, L1 .. one after the other, by the rising instructions that they tell, those that are used alone". */
    private static void writtenLabels() {
        String head = "class A:B|method f()none|room 1 2|";
        String due = "class A: B| method f() none|  room 1 2|";
        written(head + "a: nop|b: c: nop|d:|end", due + "  nop|  nop|end");
        written(head + "z: nop|jump y|y: jump x|x: jump z|end", due + "  L0: nop|  jump L1|  L1: jump L2|  L2: jump L0|end");
        written(head + "a: b: jump b|jump a|end", due + "  L0: jump L0|  jump L0|end");
        written(head + "a: nop|b:|handler a b c any|nop|nop|c: nop|end", due + "  L0: nop|  L1: nop|  nop|  L2: nop|  handler L0 L1 L2 any|end");
        written(head + "handler a e b C|handler b e a any|a: nop|b: nop|e:|end", due + "  L0: nop|  L1: nop|  L2:|  handler L0 L2 L1 C|  handler L1 L2 L0 any|end");
        written(head + "nop|e:|end", due + "  nop|end");
        // each of a handler's three may be used by it alone
        written(head + "a: nop|b: nop|c: nop|d: nop|e: nop|f: nop|g: nop|h: nop|handler a b c any|handler e g h C|end", due + "  L0: nop|  L1: nop|  L2: nop|  nop|  L3: nop|  nop|  L4: nop|  L5: nop|  handler L0 L1 L2 any|  handler L3 L4 L5 C|end");
        // a frame stands in front of the instruction, its LABEL at the words
        written(head + "a:|frame num;|b: nop|end", due + "  frame num;|  nop|end");
        written(head + "a:|frame num;|b: jump a|end", due + "  frame num;|  L0: jump L0|end");
        written(head + "x: nop|nop|y: pick 5 y,x,z,x|nop|z: nop|end", due + "  L0: nop|  nop|  L1: pick 5 L1, L0, L2, L0|  nop|  L2: nop|end");
        // in each method from L0 on
        written(head + "a: jump a|method g()none|room 1 2|b: jump b|end", due + "  L0: jump L0| method g() none|  room 1 2|  L0: jump L0|end");
        StringBuilder told = new StringBuilder(head);
        StringBuilder wanted = new StringBuilder(due);
        for (int i = 0; i < 80; i++) {
            told.append("l").append(79 - i).append(": jump l").append(i).append('|');
            wanted.append("  L").append(i).append(": jump L").append(79 - i).append('|');
        }
        written(told + "end", wanted + "end");
    }

    private static final String[] OPERATIONS = {"nop", "num -5", "null", "nload 0", "rload 19", "nstore 0", "rstore 10", "inc 0 -1", "add", "sub", "mul", "div", "rem", "neg", "and", "or", "xor", "shl", "shr",
        "pop", "dup", "dupx", "swap", "jump L0", "if0 L0", "ifn0 L0", "ifl L0", "ifge L0", "ifg L0", "ifle L0", "eq L0", "ne L0", "lt L0", "ge L0", "gt L0", "le L0", "isnull L0", "notnull L0", "same L0",
        "other L0", "pick 0 L0, L0", "new C", "newrow", "get", "put", "size", "fget C.x num", "fput C.x row", "sget C.x C", "sput C.x num", "call C.m(num, C) none", "special C.<make>(row) C", "static C.m() row",
        "facecall C.m(C, C) num", "cast C", "is C", "throw", "done", "ndone", "rdone", "enter", "leave"};

    /** Each operation, and its LABEL if it uses one. */
    private static void writtenOperations() {
        for (int op = 0; op < 62; op++) {
            boolean labelled = OPERATIONS[op].contains("L0");
            written("class A:B|method f()none|room 1 2|L0: " + OPERATIONS[op] + "|end", "class A: B| method f() none|  room 1 2|  " + (labelled ? "L0: " : "") + OPERATIONS[op] + "|end");
        }
    }

    /** What is WRITTEN may be more than the TAPE has. */
    private static void writtenAtLength() {
        Calls c = new Calls();
        c.x.world(0);
        StringBuilder told = new StringBuilder("class A:B|");
        StringBuilder due = new StringBuilder("class A: B\n");
        for (int m = 0; m < 12; m++) {
            told.append("method f").append(m).append("()none|room 1 1|").append("null|".repeat(80));
            due.append(" method f").append(m).append("() none\n  room 1 1\n").append("  null\n".repeat(80));
        }
        c.goodIn(0, 1, told + "end");
        due.append("end\n");
        Calls.due("more than 6000", due.length() > 6000 ? 1 : 0, 1);
        Calls.due("so many bytes", c.x.print(0, 21), due.length());
        for (int i = 0; i < due.length(); i += 101) {
            Calls.due("byte " + i, c.x.written(i), due.charAt(i));
        }
        Calls.due("the last one", c.x.written(due.length() - 1), 10);
        Calls.due("behind it", c.x.written(due.length()), -1);
        c.goodIn(0, 1, "class Z:B|end");
        Calls.due("a short one", c.x.print(0, 22), 15);
        Calls.due("what was written latest", c.x.written(6), 'Z');
        Calls.due("its end", c.x.written(15), -1);
    }

    /** "Read in a world without it, it is the same class": it links, runs and is told as the first. */
    private static void readAgain() {
        String told = "class A:Thing|field static x num=-3|method static f(num)num|room 2 2|a: nload 0|if0 z|handler a b h ZeroFault|num 12|nload 0|b: div|ndone|frame num;|z: sget A.x num|ndone|frame num;Fault|h: pop|num 77|ndone|end";
        Calls c = world(told);
        String text = c.print(0, 21);
        c.x.world(0);
        c.define(1, text);
        for (int n = 0; n < 4; n++) {
            for (int w = 0; w < 2; w++) {
                c.call(w, 0, "A.f(num)num : " + n);
                c.x.step(w, 99);
            }
            Calls.due("f of " + n, c.x.run(1, 0, 3), c.x.run(0, 0, 3));
            Calls.due("steps of " + n, c.x.run(1, 0, 1), c.x.run(0, 0, 1));
        }
        Calls.due("KINDS", c.x.kinds(1, 21, 0, true), c.x.kinds(0, 21, 0, true));
        Calls.due("instructions", c.x.member(1, 21, 0, 4), 11);
    }

    /** told(), member() and name() of each member, to the last one and behind it. */
    private static void toldOfMembers() {
        Calls c = world("abstract class A : Thing|field num num|field x row|field abcdefghijkl A|method f(num,row,A,num,num,num)none|room 20 19|nop|method abstract g()none|method static <start>()none|room 0 20|nop|method private <make>()none|room 3 4|nop|nop|end");
        int[][] due = {{0, 6, 20, 19, 1}, {8, 0, 0, 0, 0}, {1, 0, 0, 20, 1}, {4, 0, 3, 4, 2}};
        for (int k = 0; k < 4; k++) {
            for (int what = 0; what < 5; what++) {
                Calls.due("method " + k + " " + what, c.x.member(0, 21, k, what), due[k][what]);
            }
        }
        for (int k = 0; k < 3; k++) {
            Calls.due("type " + k, c.x.member(0, 21, k, 6), k);
            Calls.due("flags " + k, c.x.member(0, 21, k, 5), 0);
        }
        Calls.due("no fourth field", c.x.member(0, 21, 3, 5), -1);
        Calls.due("no fourth field's type", c.x.member(0, 21, 3, 6), -1);
        Calls.due("no fifth method", c.x.member(0, 21, 4, 0), -1);
        String[] fields = {"num", "x", "abcdefghijkl"};
        String[] methods = {"f", "g", "<start>", "<make>"};
        for (int k = 0; k < 3; k++) {
            names(c, 0, k, fields[k]);
        }
        for (int k = 0; k < 4; k++) {
            names(c, 1, k, methods[k]);
        }
        names(c, 0, -1, "A");
        names(c, 1, -1, "A");
        int[] told = {0, 0, 3, 4, 2, 0, 0};
        for (int what = 0; what < 7; what++) {
            Calls.due("told " + what, c.x.told(0, 21, what), told[what]);
        }
    }

    private static void names(Calls c, int kind, int k, String name) {
        for (int i = 0; i < name.length(); i++) {
            Calls.due(name + " " + i, c.x.name(0, 21, kind, k, i), name.charAt(i));
        }
        Calls.due("end of " + name, c.x.name(0, 21, kind, k, name.length()), -1);
        Calls.due("before " + name, c.x.name(0, 21, kind, k, -1), -1);
    }

    private static final String LIB = "class B : Thing|field private p num|field final e num|field static final g num|field static s num|field o num" + MAKE + "|method private h()none|room 0 1|done|method v()none|room 0 1|done|method static s()none|room 0 0|done|end"
        + "|abstract class C : B|method abstract a()none|end|face class I : Thing|field static final i num = 1|method abstract u()none|end|class Bad : Gone|end|";

    /** FORETOLD are new, cast, is, fget .. facecall "whose finding fails now: its rule, as 6 asks it in order .. no start, no object looked at". */
    private static void foretoldOperations() {
        String[] lines = {"new Gone", "new Bad", "new C", "new I", "new B", "null|cast Gone", "null|cast Bad", "null|is Gone", "null|is C", "null|fget Gone.x num", "null|fget Bad.x num", "null|fget B.x num", "null|fget B.p num", "null|fget B.s num",
            "null|fget B.o num", "null|num 1|fput B.e num", "null|num 1|fput B.o num", "sget B.o num", "sget I.i num", "num 1|sput B.g num", "num 1|sput B.s num", "static Gone.f()none", "static B.s()none", "static B.v()none", "static B.h()none",
            "null|call I.u()none", "null|call C.a()none", "null|call B.none()none", "null|call B.h()none", "null|call B.v()none", "null|facecall I.u()none", "null|facecall B.v()none", "null|call B.s()none", "null|call Gone.x()none"};
        int[] due = {50, 20, 57, 57, 0, 50, 0, 50, 0, 50, 20, 51, 53, 55, 0, 54, 0, 55, 0, 54, 0, 50, 0, 55, 53, 56, 0, 52, 53, 0, 0, 56, 55, 50};
        for (int i = 0; i < lines.length; i++) {
            int at = lines[i].length() - lines[i].replace("|", "").length();
            Calls c = world(LIB + "class A : Thing|method static f()none|room 9 1|" + lines[i] + "|null|throw|end");
            Calls.due(lines[i], c.x.foretell(0, 25, 0, 2), due[i] == 0 ? -2 : due[i]);
            Calls.due("method of " + lines[i], c.x.foretell(0, 25, 0, 0), due[i] == 0 ? -2 : 0);
            Calls.due("instruction of " + lines[i], c.x.foretell(0, 25, 0, 1), due[i] == 0 ? -2 : at);
            Calls.due("no second of " + lines[i], c.x.foretell(0, 25, 1, 0), -2);
            for (int k = 21; k < 26; k++) {
                Calls.due("none is started", c.x.told(0, k, 5), 0);
            }
            boolean bad = lines[i].contains("new Bad") || lines[i].contains("fget Bad");
            Calls.due("Bad is linked by " + lines[i], c.x.told(0, 24, 6), bad ? 2011 : 0);
        }
        // 54 by the method in which it stands; special by its class; 58 at once of static and special
        String own = "class A : P|field final x num|field final static y num|method <make>()none|room 3 1|rload 0|special P.<make>()none|rload 0|num 1|fput A.x num|num 1|sput A.y num|done"
            + "|method static <start>()none|room 3 0|num 1|sput A.y num|null|num 1|fput A.x num|done|method m()none|room 3 1|rload 0|special P.a()none|rload 0|special P.b()none|rload 0|special P.c()none|done|end"
            + "|abstract class P : Thing" + MAKE + "|method abstract a()none|method b()none|room 0 1|done|method private c()none|room 0 1|done|end";
        Calls c = world(own);
        int[][] all = {{0, 6, 54}, {1, 4, 54}, {2, 1, 58}, {2, 5, 53}};
        for (int i = 0; i < all.length; i++) {
            for (int what = 0; what < 3; what++) {
                Calls.due("foretold " + i + " " + what, c.x.foretell(0, 21, i, what), all[i][what]);
            }
        }
        Calls.due("no more", c.x.foretell(0, 21, all.length, 0), -2);
        c = world(255, LIB + "class A : Thing|method static f()none|room 9 1|new C|sget B.g num|null|num 1|fput B.e num|null|call B.h()none|sget B.o num|null|throw|end");
        Calls.due("with breaks 55 alone", c.x.foretell(0, 25, 0, 2), 55);
        Calls.due("no more", c.x.foretell(0, 25, 1, 2), -2);
    }

    /** "by methods and instructions": the i-th to the last; NO behind it. */
    private static void foretoldInOrder() {
        StringBuilder told = new StringBuilder("abstract class A : Thing|method static f()none|room 1 1|nop|");
        for (int i = 0; i < 79; i++) {
            told.append("new G").append(i).append('|');
        }
        told.append("method abstract g()none|method static h()none|room 1 1|is G0|nop|cast G1|end");
        Calls c = world(told.toString());
        for (int i = 0; i < 81; i += 4) {
            Calls.due("method of " + i, c.x.foretell(0, 21, i, 0), i < 79 ? 0 : 2);
            Calls.due("instruction of " + i, c.x.foretell(0, 21, i, 1), i < 79 ? i + 1 : i == 79 ? 0 : 2);
        }
        Calls.due("the last one", c.x.foretell(0, 21, 80, 1), 2);
        Calls.due("no more", c.x.foretell(0, 21, 81, 0), -2);
        for (int k = 0; k < 21; k++) {
            Calls.due("of a built-in class", c.x.foretell(0, k, 0, 0), -2);
        }
    }

    /** "whose finding fails now". */
    private static void foretoldNow() {
        Calls c = world("class A : Thing|method static f()none|room 1 1|sget Late.x num|pop|done|end");
        Calls.due("not there", c.x.foretell(0, 21, 0, 2), 50);
        c.goodIn(0, 1, "class Late : Thing|field static x num|end");
        Calls.due("there now", c.x.foretell(0, 21, 0, 2), -2);
        Calls.due("linked", c.x.told(0, 22, 6), 1);
        Calls.due("A is not", c.x.told(0, 21, 6), 0);
    }

    /** "The TAPE .. is an M (1), its NAME not <make>, in one line (others have no words)"; -11 and the PLACE. */
    private static void askedLines() {
        String[] bad = {"^", "^5", "A^", "A^:m()none", "A.^5()none", "A.^<make>()none", "A.^<start>()none", "A.m^", "A.m(^", "A.m(^none)none", "A.m(num,^)none", "A.m()^", "A.m()^any", "A.m()none ^x", "A.m()none ^: 1",
            "A.m()none|^A.m()none", "^num.m()none", "A.m(num,num,num,num,num,num,^num)none", "A.m(num,num,num,num,num,num,^num,num)none", "A.m()none ^@", "^@", "call ^A.m()none"};
        for (String one : bad) {
            Calls c = world("class A : Thing|method m()none|room 0 1|done|end");
            Calls.due(one, c.asked(0, 21, one.replace("^", "").replace('|', '\n')), -11);
            Calls.due("place of " + one, c.x.place(), one.indexOf('^'));
            Calls.due("the TAPE behind " + one, c.x.count(2), 0);
            Calls.due("nothing is linked", c.x.told(0, 21, 6), 0);
        }
        String[] good = {"A.m()none", "#||A.m()none # x|", " A . m ( ) none "};
        for (String one : good) {
            Calls c = world("class A : Thing|method m()none|room 0 1|done|end");
            Calls.due(one, c.asked(0, 21, one.replace('|', '\n')), 2100);
            Calls.due("place of " + one, c.x.place(), -2);
            Calls.due("the TAPE behind " + one, c.x.count(2), 0);
        }
        Calls c = world("class A : Thing|method m(num,row,A,num,num,num)A|room 1 7|null|rdone|end");
        Calls.due("six arguments", c.asked(0, 21, "A.m(num,row,A,num,num,num)A"), 2100);
        Calls.due("five", c.asked(0, 21, "A.m(num,row,A,num,num)A"), -152);
        Calls.due("another result", c.asked(0, 21, "A.m(num,row,A,num,num,num)Thing"), -152);
    }

    /** "class k is linked behind 56, 52, 55, and behind 58 of a private METHOD, which is asked at once". */
    private static void askedInOrder() {
        String told = "abstract class A : Thing|method abstract a()none|method b()none|room 0 1|done|method private c()none|room 0 1|done|method static s()none|room 0 0|done|method abstract private d()none|end"
            + "|face class I : Thing|method abstract a()none|end|class Bad : Gone|end|class Bad2 : Gone|end";
        String[] asked = {"Gone.b()none", "Bad2.b()none", "I.a()none", "I.none()none", "A.none()none", "A.s()none", "A.d()none", "A.a()none", "A.b()none", "A.c()none"};
        int[] due = {-150, -120, -156, -156, -152, -155, -158, -120, -120, -120};
        int[] linked = {0, 0, 0, 0, 0, 0, 0, 2011, 2011, 2011};
        for (int i = 0; i < asked.length; i++) {
            Calls c = world(1, told);
            Calls.due(asked[i], c.asked(0, 23, asked[i]), due[i]);
            Calls.due("linked by " + asked[i], c.x.told(0, 23, 6), linked[i]);
        }
        Calls c = world(1, told);
        int[] ofThing = {-150, -120, -156, -156, -152, -155, -158, -158, -158, 2102};
        for (int i = 0; i < asked.length; i++) {
            Calls.due("of a Thing " + asked[i], c.asked(0, 0, asked[i]), ofThing[i]);
        }
    }

    /** "which method call takes for an object of class k, for one that may ask all". */
    private static void askedMethods() {
        Calls c = world("face class I : Thing|method d()num|room 1 1|num 1|ndone|method abstract e()num|end|class P : Thing, I|method m()num|room 1 1|num 1|ndone|method private p()num|room 1 1|num 1|ndone|end"
            + "|class Q : P|method private m()num|room 1 1|num 1|ndone|method p()num|room 1 1|num 1|ndone|method static d()num|room 1 0|num 1|ndone|end|class R : Q|method m()num|room 1 1|num 1|ndone|end|class N : Thing|end");
        String[] asked = {"P.m()num", "P.p()num", "P.d()num", "P.e()num", "Q.p()num", "Q.m()num", "R.m()num", "Q.d()num"};
        int[][] due = {{2200, 2200, 2400, -158}, {2201, 2201, 2201, 2201}, {2100, 2100, 2100, -158}, {-158, -158, -158, -158}, {-158, 2301, 2301, -158}, {2300, 2300, 2300, 2300}, {2200, 2200, 2400, -158}, {-155, -155, -155, -155}};
        for (int i = 0; i < asked.length; i++) {
            for (int k = 0; k < 4; k++) {
                Calls.due(asked[i] + " of " + (22 + k), c.asked(0, 22 + k, asked[i]), due[i][k]);
            }
        }
    }

    private static void traced(Calls c, int[][] due) {
        for (int i = 0; i < due.length; i++) {
            for (int what = 0; what < 5; what++) {
                Calls.due("trace " + i + " " + what, c.x.trace(0, i, what), due[i][what]);
            }
        }
        Calls.due("no more", c.x.trace(0, due.length, 0), -2);
    }

    /** "a frame begins (1), ends with or without a value (2), ends by what is thrown (3), a class's start begins (4), ends (5), fails (6), a handler takes what was thrown (7)". */
    private static void tracedEvents() {
        Calls c = world("class A : Thing|method static f()num|room 2 0|handler a b h any|a: static A.g()none|b: num 1|ndone|frame;Fault|h: pop|static A.k()none|static A.v()num|ndone|method static g()none|room 1 0|nop|null|throw"
            + "|method static k()none|room 0 0|done|method static v()num|room 1 0|num 3|ndone|end");
        c.call(0, 0, "A.f()num");
        Calls.due("nothing yet", c.x.trace(0, 0, 0), -2);
        c.x.step(0, 99);
        traced(c, new int[][] {{4, 0, 21, -2, 0}, {5, 0, 21, -2, 0}, {1, 0, 21, 0, 0}, {1, 0, 21, 1, 1}, {3, 0, 21, 1, 4}, {7, 0, 21, 0, 4}, {1, 0, 21, 2, 6}, {2, 0, 21, 2, 7}, {1, 0, 21, 3, 8}, {2, 0, 21, 3, 10}, {2, 0, 21, 0, 11}});
        // a frame that throws itself is taken in the same one
        c = world("class A : Thing|method static f()num|room 2 0|handler a b h any|a: null|size|b: ndone|frame;Fault|h: pop|num 4|ndone|end");
        c.call(0, 2, "A.f()num");
        c.x.step(0, 99);
        traced(c, new int[][] {{4, 2, 21, -2, 0}, {5, 2, 21, -2, 0}, {1, 2, 21, 0, 0}, {7, 2, 21, 0, 2}, {2, 2, 21, 0, 5}});
        // starts: begin, the parent's, its frame, its end, fails
        c = world("class A : P|method static f()num|room 2 0|num 1|ndone|method static <start>()none|room 1 0|nop|null|throw|end|class P : Thing|method static <start>()none|room 0 0|nop|done|end");
        c.call(0, 1, "A.f()num");
        c.x.step(0, 99);
        traced(c, new int[][] {{4, 1, 21, -2, 0}, {4, 1, 22, -2, 0}, {1, 1, 22, 0, 0}, {2, 1, 22, 0, 2}, {5, 1, 22, -2, 2}, {1, 1, 21, 1, 2}, {3, 1, 21, 1, 5}, {6, 1, 21, -2, 5}});
        // the parent fails: its child's start fails, too, without a frame
        c = world("class A : P|method static f()num|room 2 0|num 1|ndone|method static <start>()none|room 0 0|done|end|class P : Thing|method static <start>()none|room 1 0|null|throw|end"
            + "|class U : Thing|method static f()num|room 2 0|static A.f()num|ndone|end");
        c.call(0, 0, "U.f()num");
        c.x.step(0, 99);
        int[][] due = {{4, 0, 23, -2, 0}, {5, 0, 23, -2, 0}, {1, 0, 23, 0, 0}, {4, 0, 21, -2, 0}, {4, 0, 22, -2, 0}, {1, 0, 22, 0, 0}, {3, 0, 22, 0, 2}, {6, 0, 22, -2, 2}, {6, 0, 21, -2, 2}, {3, 0, 23, 0, 2}};
        traced(c, due);
        // in another thread: the parent FAILED before
        c.call(0, 2, "W.f()num");
        Calls.due("W is not there", c.x.step(0, 9), 0);
        c.goodIn(0, 1, "class W : P|method static f()num|room 1 0|num 1|ndone|end");
        c.call(0, 2, "W.f()num");
        c.x.step(0, 9);
        due = java.util.Arrays.copyOf(due, 12);
        due[10] = new int[] {4, 2, 24, -2, 0};
        due[11] = new int[] {6, 2, 24, -2, 0};
        traced(c, due);
        // FAILED: nothing begins any more
        c.call(0, 0, "A.f()num");
        c.x.step(0, 99);
        traced(c, due);
        // call, special, facecall begin frames; a built-in <make> does not
        c = world("face class I : Thing|method abstract m()none|end|class A : Thing, I" + MAKE + "|method m()none|room 0 1|done|method s()none|room 1 1|rload 0|special A.m()none|done"
            + "|method static f()none|room 2 1|new A|dup|special A.<make>()none|rstore 0|rload 0|call A.m()none|rload 0|facecall I.m()none|rload 0|call A.s()none|done|end");
        c.call(0, 0, "A.f()none");
        c.x.step(0, 99);
        traced(c, new int[][] {{4, 0, 22, -2, 0}, {5, 0, 22, -2, 0}, {1, 0, 22, 3, 0}, {1, 0, 22, 0, 3}, {2, 0, 22, 0, 6}, {1, 0, 22, 1, 9}, {2, 0, 22, 1, 10}, {1, 0, 22, 1, 12}, {2, 0, 22, 1, 13}, {1, 0, 22, 2, 15},
            {1, 0, 22, 1, 17}, {2, 0, 22, 1, 18}, {2, 0, 22, 2, 19}, {2, 0, 22, 3, 20}});
    }

    /** "each with its thread"; halt() leaves what was traced. */
    private static void tracedThreads() {
        Calls c = world("class A : Thing|method static f()num|room 2 0|num 1|nop|nop|ndone|end");
        c.x.quantum(0, 1);
        c.call(0, 1, "A.f()num");
        c.call(0, 2, "A.f()num");
        c.x.step(0, 3);
        c.x.halt(0);
        traced(c, new int[][] {{4, 1, 21, -2, 0}, {5, 1, 21, -2, 0}, {1, 1, 21, 0, 0}, {1, 2, 21, 0, 0}});
        c.call(0, 0, "A.f()num");
        c.x.step(0, 99);
        traced(c, new int[][] {{4, 1, 21, -2, 0}, {5, 1, 21, -2, 0}, {1, 1, 21, 0, 0}, {1, 2, 21, 0, 0}, {1, 0, 21, 0, 0}, {2, 0, 21, 0, 4}});
        c.x.world(0);
        Calls.due("of another world", c.x.trace(1, 0, 0), -2);
    }

    /** "of a world, the first 400". */
    private static void first400() {
        // two of the start, one of the first frame, two of each call
        Calls c = world("class A : Thing|method static f(num)none|room 1 1|frame num;|L: static A.g()none|inc 0 -1|nload 0|ifg L|done|method static g()none|room 0 0|done|end");
        c.call(0, 0, "A.f(num)none : 198");
        c.x.step(0, 4000);
        Calls.due("the 400th", c.x.trace(0, 399, 0), 2);
        Calls.due("is f's end", c.x.trace(0, 399, 3), 0);
        Calls.due("no 401st", c.x.trace(0, 400, 0), -2);
        Calls.due("the 399th", c.x.trace(0, 398, 3), 1);
        c.call(0, 0, "A.f(num)none : 1");
        c.x.step(0, 4000);
        Calls.due("no more are kept", c.x.trace(0, 400, 0), -2);
        Calls.due("the first 400 stay", c.x.trace(0, 399, 4), 198 * 5 + 1);
        c = world("class A : Thing|method static f(num)none|room 1 1|frame num;|L: static A.g()none|inc 0 -1|nload 0|ifg L|nop|static A.g()none|done|method static g()none|room 0 0|done|end");
        c.call(0, 0, "A.f(num)none : 197");
        c.x.step(0, 4000);
        Calls.due("the 400th", c.x.trace(0, 399, 0), 2);
        Calls.due("there is none behind", c.x.trace(0, 400, 0), -2);
    }

    /** COUNTS: "how often each operation was done, or threw, in a world (in the order of section 1)". */
    private static void countedOperations() {
        String[] order = new String[62];
        for (int i = 0; i < 62; i++) {
            order[i] = OPERATIONS[i].split(" ")[0];
        }
        String code = "num 3|nstore 0|nload 0|nload 0|add|pop|num 1|num 1|sub|pop|num 1|num 2|mul|num 1|div|num 1|rem|neg|num 1|and|num 1|or|num 1|xor|num 1|shl|num 1|shr|pop|num 1|dup|dupx|swap|pop|pop|pop|null|rstore 1|rload 1|pop|inc 0 4|nop|done";
        String more = "num 2|newrow|rstore 1|rload 1|num 0|num 1|put|rload 1|num 0|get|pop|rload 1|size|pop|rload 1|enter|rload 1|leave|rload 1|is Thing|pop|rload 1|cast Thing|pop|new B|dup|special B.<make>()none|rstore 2|rload 2|num 5|fput B.x num|rload 2|fget B.x num"
            + "|sput B.y num|sget B.y num|pop|rload 2|call B.m()none|rload 2|facecall I.m()none|static B.s()none|done";
        Calls c = world("face class I : Thing|method abstract m()none|end|class B : Thing, I|field x num|field static y num" + MAKE + "|method m()none|room 0 1|done|method static s()none|room 0 0|done|end"
            + "|class A : Thing|method static f()none|room 6 3|" + code + "|method static g()none|room 6 3|" + more + "|end");
        c.call(0, 0, "A.f()none");
        c.x.step(0, 4000);
        Calls.due("ended", c.x.run(0, 0, 0), 0);
        c.call(0, 0, "A.g()none");
        c.x.step(0, 4000);
        Calls.due("ended", c.x.run(0, 0, 0), 0);
        String all = code + "|" + more + "|rload 0|special Thing.<make>()none|done|done|done|done";
        for (int op = 0; op < 62; op++) {
            int due = 0;
            for (String line : all.split("\\|")) {
                due += line.split(" ")[0].equals(order[op]) ? 1 : 0;
            }
            Calls.due(order[op], c.x.done(0, op), due);
        }
        // each jump, taken or not
        for (int op = 23; op < 41; op++) {
            int wants = op == 23 ? 0 : op < 30 || op == 36 || op == 37 || op == 40 ? 1 : 2;
            String value = op < 36 || op == 40 ? "num 0|" : "null|";
            String line = order[op] + (op == 40 ? " 0" : "") + " L";
            Calls j = world("class A : Thing|method static f()none|room 6 3|" + value.repeat(wants) + line + "|frame ;|L: done|end");
            for (int i = 1; i < 4; i++) {
                j.call(0, 0, "A.f()none");
                j.x.step(0, 9);
                for (int k = 23; k < 41; k++) {
                    Calls.due(order[op] + " " + k, j.x.done(0, k), k == op ? i : 0);
                }
            }
        }
        Calls.due("op 61", c.x.done(0, 61), 1);
        Calls.due("op 62", c.x.done(0, 62), -1);
        Calls.due("op -1", c.x.done(0, -1), -1);
    }

    /** "was done, or threw". */
    private static void countedThrows() {
        String[] lines = {"null|throw", "num 1|num 0|div", "num 1|num 0|rem", "num -1|newrow", "null|size", "null|num 1|get", "null|num 1|num 1|put", "null|enter", "null|leave", "new Gone", "sget Gone.x num", "num 1|sput Gone.x num", "null|fget A.x num",
            "null|num 1|fput A.x num", "static Gone.f()none", "null|call A.m()none", "num 0|newrow|cast A", "num 0|newrow|is Gone", "num 0|newrow|cast Thing|facecall I.m()none"};
        int[] ops = {56, 11, 12, 42, 45, 43, 44, 60, 61, 41, 48, 49, 46, 47, 52, 50, 54, 55, 53};
        for (int i = 0; i < lines.length; i++) {
            Calls c = world("class A : Thing|field x num|method m()none|room 0 1|done|method static f()none|room 6 3|" + lines[i] + (ops[i] == 56 ? "" : "|null|throw") + "|end|face class I : Thing|method abstract m()none|end");
            c.call(0, 0, "A.f()none");
            c.x.step(0, 99);
            Calls.due("FAILED " + lines[i], c.x.run(0, 0, 0), 2);
            Calls.due(lines[i], c.x.done(0, ops[i]), 1);
            Calls.due("its steps", c.x.run(0, 0, 1), lines[i].length() - lines[i].replace("|", "").length() + 1);
        }
        // what waits, and what a start throws at it, is not counted
        Calls c = world("class S : Thing|field static x num|method static <start>()none|room 1 0|null|throw|end|class A : Thing|method static f()num|room 1 0|sget S.x num|ndone|end");
        c.call(0, 0, "A.f()num");
        c.x.step(0, 9);
        Calls.due("sget", c.x.done(0, 48), 0);
        Calls.due("throw", c.x.done(0, 56), 1);
    }

    private static final String BOX = "class A : Thing|field n num|field r Thing|field w row|field static s Thing|field static m num|field static sw row" + MAKE + "|method static box()A|room 2 0|new A|dup|special A.<make>()none|rdone";

    /** REACHED: "by static fields, by locals and stacks of frames, by fields of objects that are reached". */
    private static void reachedByRoots() {
        Calls c = world(BOX + "|method static f()none|room 9 3|static A.box()A|rstore 0|static A.box()A|static A.box()A|sput A.s Thing|num 4|newrow|sput A.sw row|static A.box()A|pop|num 3|newrow|pop|rload 0|static A.box()A|fput A.r Thing"
            + "|rload 0|num 2|newrow|fput A.w row|num 5|num 6|static A.g(num)none|null|rstore 0|nop|pop|nop|pop|nop|done|method static g(num)none|room 2 3|static A.box()A|rstore 1|static A.box()A|nop|null|rstore 1|nop|pop|nop|done|end");
        c.call(0, 0, "A.f()none");
        for (int i = 0; i < 200 && !(c.x.run(0, 0, 8) == 3 && c.x.run(0, 0, 9) == 4); i++) {
            c.x.step(0, 1);
        }
        // 1 local, 2 stack, 3 static, 4 row static, 5 and 6 nothing, 7 field of 1, 8 row of 1, 9 local of g, 10 stack of g
        Calls.due("ten", c.x.run(0, 0, 10), 10);
        Calls.due("two are not reached", c.x.collect(0), 2);
        for (int r = 1; r <= 10; r++) {
            Calls.due("object " + r, c.x.object(0, r, -2), r == 5 || r == 6 ? -1 : 0);
        }
        Calls.due("nothing more", c.x.collect(0), 0);
        c.x.step(0, 3);
        Calls.due("g's local", c.x.collect(0), 1);
        Calls.due("it was 9", c.x.object(0, 9, -1), -1);
        c.x.step(0, 2);
        Calls.due("g's stack", c.x.collect(0), 1);
        Calls.due("it was 10", c.x.object(0, 10, -1), -1);
        for (int i = 0; i < 200 && c.x.run(0, 0, 6) != 1; i++) {
            c.x.step(0, 1);
        }
        Calls.due("all the others", c.x.collect(0), 0);
        c.x.step(0, 3);
        Calls.due("f's local and what it has", c.x.collect(0), 3);
        c.x.step(0, 2);
        Calls.due("a number of its stack", c.x.collect(0), 0);
        c.x.step(0, 2);
        Calls.due("the object below it", c.x.collect(0), 1);
        Calls.due("the static ones", c.x.run(0, 0, 10), 2);
        Calls.due("the object's fields", c.x.object(0, 3, -3), 3);
        Calls.due("the row's elements", c.x.object(0, 4, -3), 4);
        c.x.step(0, 9);
        Calls.due("they stay", c.x.collect(0), 0);
        Calls.due("fields and elements", c.x.run(0, 0, 11), 7);
        // threads 1 and 2, and rings
        c = world(BOX + "|method static f()none|room 4 3|static A.box()A|rstore 0|static A.box()A|rstore 1|rload 0|rload 1|fput A.r Thing|rload 1|rload 0|fput A.r Thing|nop|null|rstore 0|nop|null|rstore 1|nop|done|end");
        c.call(0, 2, "A.f()none");
        for (int i = 0; i < 99 && c.x.run(0, 2, 9) != 11; i++) {
            c.x.step(0, 1);
        }
        Calls.due("a ring is reached", c.x.collect(0), 0);
        c.x.step(0, 3);
        Calls.due("by its other one", c.x.collect(0), 0);
        c.x.step(0, 3);
        Calls.due("not any more", c.x.collect(0), 2);
        // a run's end is no frame
        c = world(BOX + "|end");
        c.call(0, 0, "A.box()A");
        c.x.step(0, 99);
        Calls.due("it ended with an object", c.x.run(0, 0, 2), 4);
        Calls.due("that is not reached", c.x.collect(0), 1);
        Calls.due("its class is told still", c.x.run(0, 0, 4), 21);
    }

    /** "their numbers are given again, the least free one first. RoomFault counts those that are there." */
    private static void leastFreeNumbers() {
        String told = "class A : Thing|field static a row|field static b row|field static c row|field static d row|field static e row|%|end";
        StringBuilder methods = new StringBuilder();
        String[] names = {"a", "b", "c", "d", "e"};
        for (String n : names) {
            methods.append("|method static ").append(n).append("(num)none|room 1 1|nload 0|newrow|sput A.").append(n).append(" row|done|method static no").append(n).append("()none|room 1 0|null|sput A.").append(n).append(" row|done");
        }
        Calls c = world(told.replace("|%", methods.toString()));
        String[] calls = {"a(num)none : 1", "b(num)none : 2", "c(num)none : 3", "d(num)none : 4", "nob()none", "noc()none"};
        for (String one : calls) {
            c.call(0, 0, "A." + one);
            c.x.step(0, 9);
        }
        Calls.due("two", c.x.collect(0), 2);
        Calls.due("a", c.x.fixed(0, 21, 0), 1);
        Calls.due("d", c.x.fixed(0, 21, 3), 4);
        String[] then = {"e(num)none : 5", "c(num)none : 6", "b(num)none : 7"};
        int[] fields = {4, 2, 1};
        int[] due = {2, 3, 5};
        for (int i = 0; i < 3; i++) {
            c.call(0, 0, "A." + then[i]);
            c.x.step(0, 9);
            Calls.due("the least free one first", c.x.fixed(0, 21, fields[i]), due[i]);
        }
        int[] sizes = {1, 5, 6, 4, 7};
        for (int r = 1; r <= 5; r++) {
            Calls.due("elements of " + r, c.x.object(0, r, -3), sizes[r - 1]);
        }
        Calls.due("in all", c.x.run(0, 0, 11), 23);
        c.call(0, 0, "A.noa()none");
        c.x.step(0, 9);
        c.x.collect(0);
        c.call(0, 0, "A.a(num)none : 300");
        c.x.step(0, 9);
        Calls.due("1 again", c.x.fixed(0, 21, 0), 1);
        for (int i = 0; i < 300; i += 37) {
            Calls.due("its elements are 0", c.x.object(0, 1, i), 0);
        }
        // one more by one: what is collected makes room
        for (int i = 0; i < 30; i++) {
            c.call(0, 0, "A.a(num)none : 300");
            c.x.step(0, 9);
            Calls.due("no RoomFault", c.x.run(0, 0, 0), 0);
            Calls.due("the one before", c.x.collect(0), 1);
        }
    }

    /** What stays keeps its fields and elements; what is made then has 0s. */
    private static void keptByCollected() {
        StringBuilder methods = new StringBuilder();
        String[] names = {"a", "b", "c", "d"};
        for (String n : names) {
            methods.append("|field static ").append(n).append(" row");
        }
        for (String n : names) {
            methods.append("|method static ").append(n).append("(num,num)none|room 3 2|nload 0|newrow|sput A.").append(n).append(" row|frame num, num;|L: inc 0 -1|sget A.").append(n).append(" row|nload 0|nload 1|put|inc 1 1|nload 0|ifg L|done|method static no").append(n)
                .append("()none|room 1 0|null|sput A.").append(n).append(" row|done");
        }
        Calls c = world("class A : Thing" + methods + "|end");
        String[] calls = {"a(num,num)none : 3, 10", "b(num,num)none : 2, 20", "c(num,num)none : 4, 30", "noa()none", "*", "d(num,num)none : 3, 40", "nob()none", "*", "a(num,num)none : 2, 50", "noc()none", "*", "c(num,num)none : 2, 60", "b(num,num)none : 1, 70"};
        for (String one : calls) {
            if (one.equals("*")) {
                Calls.due("one goes", c.x.collect(0), 1);
                for (int k = 0; k < 4; k++) {
                    int r = c.x.fixed(0, 21, k);
                    int first = c.x.object(0, r, 0);
                    for (int i = 1; i < 4 && c.x.object(0, r, i) != -1; i++) {
                        Calls.due("element " + i + " of field " + k, c.x.object(0, r, i), first - i);
                    }
                    // a has 10s or 50s, b 20s, c 30s, d 40s
                    Calls.due("its tens", r == 0 ? (k + 1) % 4 : first / 10 % 4, (k + 1) % 4);
                }
            } else {
                c.call(0, 0, "A." + one);
                Calls.due(one, c.x.step(0, 99), 0);
            }
        }
        // d took the number of a, a that of b, c that of c, then b is the fourth
        int[][] due = {{42, 41, 40}, {51, 50}, {61, 60}, {70}};
        for (int r = 1; r <= 4; r++) {
            Calls.due("elements of " + r, c.x.object(0, r, -3), due[r - 1].length);
            for (int i = 0; i < due[r - 1].length; i++) {
                Calls.due("element " + i + " of " + r, c.x.object(0, r, i), due[r - 1][i]);
            }
        }
        Calls.due("in all", c.x.run(0, 0, 11), 8);
        Calls.due("nothing more goes", c.x.collect(0), 0);
        for (int r = 1; r <= 4; r++) {
            for (int i = 0; i < due[r - 1].length; i++) {
                Calls.due("element " + i + " of " + r + " still", c.x.object(0, r, i), due[r - 1][i]);
            }
        }
        String[] none = {"noa()none", "nob()none", "noc()none", "nod()none"};
        for (String one : none) {
            c.call(0, 0, "A." + one);
            c.x.step(0, 9);
        }
        Calls.due("all four", c.x.collect(0), 4);
        // two elements are put, of five: the others are 0 where other ones stood
        c = world("class A : Thing|field static a row|field static b row|method static fill()none|room 4 1|num 9|newrow|rstore 0|rload 0|num 0|num 1|put|rload 0|num 3|num 2|put|rload 0|num 8|num 3|put|done|method static keep()none|room 4 0|num 9|newrow|sput A.a row|done|end");
        c.call(0, 0, "A.fill()none");
        c.x.step(0, 99);
        Calls.due("its element", c.x.object(0, 1, 8), 3);
        c.x.collect(0);
        for (int k = 0; k < 6; k++) {
            c.call(0, 0, "A.keep()none");
            c.x.step(0, 99);
            for (int i = 0; i < 9; i++) {
                Calls.due("0 again " + i, c.x.object(0, 1, i), 0);
            }
            c.call(0, 0, "A.fill()none");
            c.x.step(0, 99);
            c.x.collect(0);
        }
    }

    /** What a reference was got from does not matter: it reaches, and a number does not. */
    private static void reachedByGot() {
        Calls c = world(BOX + "|method static f()none|room 9 1|static A.box()A|sput A.s Thing|static A.box()A|rstore 0|rload 0|static A.box()A|fput A.r Thing|rload 0|num 2|newrow|fput A.w row|rload 0|num 5|fput A.n num|num 6|sput A.m num|static A.box()A|pop|static A.box()A|pop"
            + "|sget A.s Thing|null|sput A.s Thing|rload 0|fget A.r Thing|rload 0|fget A.w row|rload 0|fget A.n num|sget A.m num|null|rstore 0|nop|pop|pop|nop|pop|nop|pop|nop|pop|nop|done|end");
        c.call(0, 0, "A.f()none");
        for (int i = 0; i < 200 && c.x.value(0, 0, true, 4) == -1; i++) {
            c.x.step(0, 1);
        }
        Calls.due("all are there", c.x.run(0, 0, 10), 6);
        c.x.step(0, 3);
        // 1 was static, 2 the local, 3 its field, 4 its row; 5 and 6 nothing but numbers
        Calls.due("2, 5 and 6 go", c.x.collect(0), 3);
        int[] there = {0, -1, 0, 0, -1, -1};
        for (int r = 1; r <= 6; r++) {
            Calls.due("object " + r, c.x.object(0, r, -2), there[r - 1]);
        }
        int[] stack = {6, 5, 4, 3, 1};
        for (int i = 0; i < 5; i++) {
            Calls.due("on the stack " + i, c.x.value(0, 0, true, i), stack[i]);
        }
        c.x.step(0, 3);
        Calls.due("numbers go: nothing", c.x.collect(0), 0);
        for (int i = 0; i < 3; i++) {
            c.x.step(0, 2);
            Calls.due("then one by one", c.x.collect(0), 1);
        }
        Calls.due("none", c.x.run(0, 0, 10), 0);
    }

    /** LOCKS reach nothing, and what has the number then has none. */
    private static void collectedLocks() {
        Calls c = world("class A : Thing|field static a row|method static in()none|room 2 0|num 3|newrow|dup|sput A.a row|enter|done|method static no()none|room 1 0|null|sput A.a row|done|method static make()none|room 1 0|num 2|newrow|sput A.a row|done|end");
        c.call(0, 1, "A.in()none");
        c.x.step(0, 9);
        Calls.due("LOCKS", c.x.object(0, 1, -2), 1);
        c.call(0, 0, "A.no()none");
        c.x.step(0, 9);
        Calls.due("a locked one goes, too", c.x.collect(0), 1);
        c.call(0, 0, "A.make()none");
        c.x.step(0, 9);
        Calls.due("its number", c.x.fixed(0, 21, 0), 1);
        Calls.due("no LOCKS", c.x.object(0, 1, -2), 0);
    }

    /** What is reached by references alone: a number that is as great is none. */
    private static void collectedFields() {
        Calls c = world("class P : Thing|field pn num|field pr Thing|field static ps num|method <make>()none|room 1 1|rload 0|special Thing.<make>()none|done|end|class A : P|field n num|field r Thing|field static s Thing|field static m num|method <make>()none|room 1 1|rload 0|special P.<make>()none|done"
            + "|method static box()A|room 2 0|new A|dup|special A.<make>()none|rdone|method static f()none|room 4 2|static A.box()A|dup|sput A.s Thing|rstore 0|static A.box()A|pop|static A.box()A|pop|static A.box()A|pop|static A.box()A|pop"
            + "|rload 0|num 2|fput A.n num|rload 0|num 3|fput P.pn num|num 4|sput A.m num|num 5|nstore 1|num 5|nop|nop|pop|done|method static g()none|room 4 1|static A.box()A|rstore 0|sget A.s Thing|cast A|rload 0|fput P.pr Thing|sget A.s Thing|cast A|static A.box()A|fput A.r Thing|done|end");
        c.call(0, 0, "A.f()none");
        for (int i = 0; i < 99 && c.x.run(0, 0, 9) != 24; i++) {
            c.x.step(0, 1);
        }
        Calls.due("numbers reach nothing", c.x.collect(0), 4);
        c.x.step(0, 99);
        c.call(0, 0, "A.g()none");
        c.x.step(0, 99);
        Calls.due("three", c.x.run(0, 0, 10), 3);
        Calls.due("by a field of the class above, and its own", c.x.collect(0), 0);
        int[] due = {3, 2, 2, 3};
        for (int i = 0; i < 4; i++) {
            Calls.due("field " + i, c.x.object(0, 1, i), due[i]);
        }
        Calls.due("its class", c.x.object(0, 2, -1), 22);
        // a thrown one of the machine's own is neither counted nor collected
        c = world("class A : Thing|field static e Fault|method static f()none|room 1 0|handler a b h any|a: null|size|pop|b: done|frame;Fault|h: sput A.e Fault|done|method static g()none|room 1 0|sget A.e Fault|throw|end");
        c.call(0, 0, "A.f()none");
        c.x.step(0, 99);
        Calls.due("none", c.x.collect(0), 0);
        c.call(0, 0, "A.g()none");
        c.x.step(0, 99);
        Calls.due("it is there", c.x.run(0, 0, 4), 2);
    }

    private static void differ(int what, int due, String one, String two) {
        Calls c = new Calls();
        c.x.world(255);
        c.x.world(255);
        c.goodIn(0, 1, one.replace("%", "A"));
        c.goodIn(0, 1, two.replace("%", "B"));
        c.goodIn(1, 1, two.replace("%", "A"));
        Calls.due(one + " and " + two, c.x.differ(0, 21, 0, 22, what), due);
        Calls.due("of another world " + one + " and " + two, c.x.differ(0, 21, 1, 21, what), due);
        Calls.due("with itself", c.x.differ(0, 21, 0, 21, what), 0);
    }

    private static void differBoth(int what, int due, String one, String two) {
        differ(what, due, one, two);
        differ(what, due, two, one);
    }

    /** 0: "1 if FLAGS, PARENT or FACES (in order) do". */
    private static void headsDiffer() {
        String[] heads = {"class % : P", "final class % : P", "abstract class % : P", "face class % : P", "final abstract class % : P", "class % : Q", "class % : P, I", "class % : P, J", "class % : P, I, J", "class % : P, J, I", "class % : P, I, J, K, L",
            "class % : P, I, J, K, M", "class % : P, I, J, L, K", "class % : I, P"};
        for (int i = 0; i < heads.length; i++) {
            for (int k = 0; k < heads.length; k++) {
                differ(0, i == k ? 0 : 1, heads[i] + "|field x" + i + " num|end", heads[k] + "|end");
            }
        }
        Calls c = new Calls();
        c.x.world(0);
        for (int k = 2; k < 21; k++) {
            Calls.due("Thing and " + k, c.x.differ(0, 0, 0, k, 0), 1);
            Calls.due("NullFault and " + k, c.x.differ(0, 2, 0, k, 0), k <= 10 ? 0 : 1);
            Calls.due("StartFault and " + k, c.x.differ(0, 20, 0, k, 0), k <= 10 ? 1 : 0);
        }
    }

    /** 1: "how many fields of c d has not with the same NAME, type, FLAGS and = ". */
    private static void fieldsDiffer() {
        String[] fields = {"field x num", "field y num", "field x row", "field x P", "field static x num", "field final x num", "field private x num", "field static x num = 0", "field static x num = 1", "field static x num = -1", "field static final x num = 1"};
        for (int i = 0; i < fields.length; i++) {
            for (int k = 0; k < fields.length; k++) {
                differ(1, i == k ? 0 : 1, "class % : P|" + fields[i] + "|end", "class % : P|" + fields[k] + "|end");
            }
        }
        String three = "class % : P|field x num|field y row|field static z num = 4|end";
        differ(1, 0, three, "class % : Q|field static z num = 4|field w num|field y row|field x num|end");
        differ(1, 3, three, "class % : P|end");
        differ(1, 0, "class % : P|end", three);
        differ(1, 2, three, "class % : P|field x num|field z num|field y num|end");
        differ(1, 1, three, "class % : P|field x num|field static z num = 5|field y row|end");
        differ(1, 8, "class % : P|field a num|field b num|field c num|field d num|field e num|field f num|field g num|field h num|end", three);
    }

    /** 2: "how many methods of c d has not with the same NAME, types and result". */
    private static void methodsDiffer() {
        String[] methods = {"method f()none", "method g()none", "method f()num", "method f(num)none", "method f(row)none", "method f(num,num)none", "method f(num,row)none", "method f(row,num)none", "method f()P", "method <make>()none", "method <make>(num)none"};
        for (int i = 0; i < methods.length; i++) {
            for (int k = 0; k < methods.length; k++) {
                differ(2, i == k ? 0 : 1, "class % : P|" + methods[i] + "|room 9 9|nop|end", "class % : P|" + methods[k].replace("method f", "method static f") + "|room 8 9|done|end");
            }
        }
        String two = "abstract class % : P|method abstract f()none|method g()none|room 0 1|nop|end";
        differ(2, 0, two, "class % : P|method g()none|room 0 1|done|method h()none|room 0 1|done|method f()none|room 0 1|done|end");
        differ(2, 2, two, "class % : P|end");
        differ(2, 0, "class % : P|end", two);
        differ(2, 1, two, "class % : P|method f()none|room 0 1|nop|end");
    }

    /** 3: "how many it has so, but with other FLAGS, ROOM, or instructions, frames, handlers, as they are WRITTEN". */
    private static void bodiesDiffer() {
        String head = "class % : P|method f()none|";
        String[] bodies = {"room 1 1|nop", "room 1 2|nop", "room 2 1|nop", "room 1 1|nop|nop", "room 1 1|num 1", "room 1 1|num 2", "room 1 1|nload 0", "room 1 1|nload 1", "room 1 1|rload 0", "room 1 1|inc 0 1", "room 1 1|inc 0 2", "room 1 1|inc 1 1", "room 1 1|new A",
            "room 1 1|new B", "room 1 1|cast A", "room 1 1|fget A.x num", "room 1 1|fget A.y num", "room 1 1|fget A.x row", "room 1 1|fget B.x num", "room 1 1|sget A.x num", "room 1 1|call A.f()none", "room 1 1|call A.g()none", "room 1 1|call B.f()none", "room 1 1|call A.f(num)none",
            "room 1 1|call A.f()num", "room 1 1|special A.f()none", "room 1 1|L: jump L", "room 1 1|L: if0 L", "room 1 1|L: pick 1 L", "room 1 1|L: pick 2 L", "room 1 1|L: pick 1 L, L", "room 1 1|frame ;|nop", "room 1 1|frame num;|nop", "room 1 1|frame ;num|nop", "room 1 1|frame row;|nop",
            "room 1 1|frame num, unset;|nop", "room 1 1|frame unset, num;|nop", "room 1 1|frame num;num|nop", "room 1 1|frame num, num;|nop", "room 1 1|frame ;num, num|nop", "room 1 1|frame A;|nop", "room 1 1|nop|frame ;|nop", "room 1 1|frame ;|nop|nop", "room 1 1|a: nop|b: nop|jump a",
            "room 1 1|a: nop|b: nop|jump b", "room 1 1|a: nop|b: nop|handler a b a any", "room 1 1|a: nop|b: nop|handler a b b any", "room 1 1|a: nop|b: nop|handler a b a A", "room 1 1|a: nop|b: nop|c:|handler a c a any", "room 1 1|a: nop|b: nop|c:|handler b c a any",
            "room 1 1|a: nop|b: nop|handler a b a any|handler a b b any", "room 1 1|a: nop|b: nop|handler a b b any|handler a b a any", "room 1 1|a: nop|b: nop|pick 1 a, b", "room 1 1|a: nop|b: nop|pick 1 b, a"};
        for (int i = 0; i < bodies.length; i++) {
            Calls c = new Calls();
            c.x.world(0);
            for (int k = i; k < Math.min(i + 25, bodies.length); k++) {
                c.goodIn(0, 1, (head + bodies[k] + "|end").replace("%", "C" + k));
            }
            for (int k = i; k < Math.min(i + 25, bodies.length); k++) {
                Calls.due(bodies[i] + " and " + bodies[k], c.x.differ(0, 21, 0, 21 + k - i, 3), i == k ? 0 : 1);
                Calls.due(bodies[k] + " and " + bodies[i], c.x.differ(0, 21 + k - i, 0, 21, 3), i == k ? 0 : 1);
            }
        }
        // LABELS have other names, and may be told and not used; numbers may be told otherwise
        differBoth(3, 0, head + "room 1 1|a: b: nop|c: jump b|end", head + "room 01 1|x: nop|jump x|e:|end");
        differBoth(3, 0, head + "room 1 1|num -0|handler a b a any|a: nop|b:|end", head + "room 1 1|num 0|q: nop|r:|handler q r q any|end");
        // FLAGS
        String[] flags = {"", "static ", "final ", "private ", "static final private "};
        for (int i = 0; i < flags.length; i++) {
            for (int k = 0; k < flags.length; k++) {
                differ(3, i == k ? 0 : 1, "class % : P|method " + flags[i] + "f()none|room 1 1|nop|end", "class % : P|method " + flags[k] + "f()none|room 1 1|nop|end");
            }
        }
        differBoth(3, 1, "abstract class % : P|method abstract f()none|end", "abstract class % : P|method f()none|room 0 1|nop|end");
        differBoth(3, 0, "abstract class % : P|method abstract f()none|end", "face class % : P|method abstract f()none|end");
        // a second method's handlers, frames and LABELS
        String first = "class % : P|method e()none|room 3 1|x: nop|y: nop|z:|handler x y x A|handler y z y any|method f()none|room 1 1|";
        String[] second = {"a: nop|b: nop|handler a b a any|handler a b b Fault", "a: nop|b: nop|handler a b a any|handler a b b Thing", "a: nop|b: nop|c:|handler a b a any|handler a c b Fault", "a: nop|b: nop|handler a b a any|handler a b a Fault",
            "a: nop|b: nop|c:|handler a b a any|handler b c b Fault", "a: nop|b: nop|handler a b a Late|handler a b b Fault"};
        for (int i = 0; i < second.length; i++) {
            for (int k = 0; k < second.length; k++) {
                differ(3, i == k ? 0 : 1, first + second[i] + "|end", first + second[k] + "|end");
            }
        }
        // those that d has not do not count
        differBoth(3, 1, "class % : P|method f()none|room 1 1|nop|method g()none|room 1 1|nop|method h()none|room 1 1|nop|end", "class % : P|method h()none|room 1 1|nop|method g()none|room 1 1|done|method k()none|room 1 1|done|end");
        Calls c = new Calls();
        c.x.world(0);
        c.x.world(0);
        for (int what = 0; what < 4; what++) {
            Calls.due("built-in ones " + what, c.x.differ(0, 5, 1, 5, what), 0);
            Calls.due("their <make> " + what, c.x.differ(0, 5, 1, 15, what), what == 0 ? 1 : 0);
        }
    }

    private static void reached(Calls c, int cls, int m, int... due) {
        Calls.due("how many of " + cls + " " + m, c.x.reach(0, cls, m), due.length);
        for (int i = 0; i < due.length; i++) {
            Calls.due("reached " + i + " of " + cls + " " + m, c.x.reached(i), due[i]);
        }
        Calls.due("no more of " + cls + " " + m, c.x.reached(due.length), -2);
        Calls.due("below", Math.min(c.x.reached(-1), -1), c.x.reached(-1));
    }

    /** "static, special: what is found (as that method finds it; nothing if that fails)"; others that reach nothing. */
    private static void reachedByOperations() {
        String lib = "class B : P|field static x num|field y num" + MAKE.replace("Thing", "P") + "|method private h()none|room 0 1|done|method static s()none|room 0 0|done|method v()none|room 0 1|done|end|class P : Thing" + MAKE
            + "|method static q()none|room 0 0|done|method private static r()none|room 0 0|done|end|abstract class Z : Thing|method abstract a()none|end|class Bad : Gone|method static f()none|room 0 0|done|end";
        String[] lines = {"static B.s()none", "static B.q()none", "static P.q()none", "static P.r()none", "static B.none()none", "static B.v()none", "static Gone.f()none", "static Bad.f()none", "new B|special B.<make>()none", "new P|special P.<make>()none", "new Thing|special Thing.<make>()none",
            "new B", "sget B.x num", "num 1|sput B.x num", "null|fget B.y num", "null|is B", "null|cast B", "null|call B.h()none", "null|call B.v()none", "null|call Z.a()none", "null|call B.s()none"};
        int[][] due = {{2101}, {2201}, {2201}, {}, {}, {}, {}, {}, {2100, 2200}, {2200}, {}, {}, {}, {}, {}, {}, {}, {}, {2103}, {}, {}};
        for (int i = 0; i < lines.length; i++) {
            String told = lib.replace("|method private h()none|room 0 1|done|method static s()none|room 0 0|done", "|method static s()none|room 0 0|done|method private h()none|room 0 1|done");
            Calls c = world(told + "|class A : Thing|method static f()none|room 9 1|" + lines[i] + "|done|end");
            int[] all = new int[due[i].length + 1];
            all[0] = 2500;
            System.arraycopy(due[i], 0, all, 1, due[i].length);
            reached(c, 25, 0, all);
        }
        // private ones as they are found: from its own class
        Calls c = world("class B : Thing|method private h()none|room 0 1|done|method g()none|room 1 1|rload 0|call B.h()none|rload 0|special B.h()none|rload 0|call B.none()none|done|end|class C : B|method h()none|room 0 1|done|end");
        reached(c, 21, 1, 2101, 2100);
        c = world("abstract class Z : Thing|method abstract a()none|method static f()none|room 1 0|null|call Z.a()none|done|end");
        reached(c, 21, 0, 2100);
        reached(c, 21, 1, 2101);
        for (int k = 0; k < 21; k++) {
            reached(c, k, 0, 100 * k);
        }
        // itself once, though it is called
        c = world("class B : Thing|method static a()none|room 0 0|static B.b()none|static B.a()none|done|method static b()none|room 0 0|static B.a()none|static B.b()none|done|end");
        reached(c, 21, 0, 2100, 2101);
        reached(c, 21, 1, 2101, 2100);
        Calls.due("a refused one changes nothing", c.x.reach(0, 21, 2), -1);
        Calls.due("the latest one", c.x.reached(0), 2101);
    }

    /** "for each class that is neither abstract nor a face, is below C, and links, by numbers, what is called for an object of it, if that has a body". */
    private static void reachedOfObjects() {
        String lib = "class C5 : B|method m()none|room 0 1|done|end|face class I : Thing|method abstract m()none|method d()none|room 0 1|done|end|class B : Thing, I|method m()none|room 0 1|done|end|abstract class U : B|method m()none|room 0 1|done|end"
            + "|class V : U|end|class Bad : Gone, I|method m()none|room 0 1|done|end|class Bad2 : B|method m()none|room 0 1|done|method x()none|room 0 1|pop|done|end|class N : Thing|method m()none|room 0 1|done|end|class W : B|method private m()none|room 0 1|done|method d()none|room 0 1|done|end|";
        Calls c = world(lib + "class A : Thing|method static f()none|room 1 0|null|call B.m()none|done|method static g()none|room 1 0|null|facecall I.m()none|done|method static h()none|room 1 0|null|call B.d()none|done|method static k()none|room 1 0|null|call U.m()none|done"
            + "|method static l()none|room 1 0|null|call N.m()none|done|end");
        reached(c, 30, 0, 3000, 2100, 2300, 2400);
        reached(c, 30, 1, 3001, 2100, 2300, 2400);
        reached(c, 30, 2, 3002, 2201, 2901);
        reached(c, 30, 3, 3003, 2400);
        reached(c, 30, 4, 3004, 2800);
        // an abstract class and a face are not asked, though they have bodies of their own
        Calls own = world("class B : Thing|method m()none|room 0 1|done|end|abstract class U : B|method m()none|room 0 1|done|end|face class I : Thing|method d()none|room 0 1|done|end|face class J : Thing, I|method d()none|room 0 1|done|end|class C : Thing, I|end"
            + "|class A : Thing|method static f()none|room 1 0|null|call B.m()none|done|method static g()none|room 1 0|null|facecall I.d()none|done|end");
        reached(own, 26, 0, 2600, 2100);
        reached(own, 26, 1, 2601, 2300);
        Calls.due("what does not link was asked", c.x.told(0, 26, 6), 2011);
        Calls.due("this, too", c.x.told(0, 27, 6), 3117);
        Calls.due("none is started", c.x.told(0, 23, 5), 0);
    }

    /** "new, static, sget, sput: the <start> of the class that would be started, if it has one and is not STARTED, then likewise its parents'". */
    private static void reachedStarts() {
        String start = "|method static <start>()none|room 0 0|done";
        String lib = "class C : B|field static x num" + start + "|method static s()none|room 0 0|done|end|class B : P, I|field static y num|method static t()none|room 0 0|done|end|class P : Thing|field static z num" + start + "|end"
            + "|face class I : Thing, J|field static final i num = 1" + start + "|end|face class J : Thing" + start + "|end|class A : Thing|method static f()none|room 1 0|%|done|end";
        String[] lines = {"new C|pop", "sget C.x num|pop", "num 1|sput C.x num", "static C.s()none", "new B|pop", "sget C.y num|pop", "static C.t()none", "sget C.z num|pop", "sget C.i num|pop", "sget I.i num|pop", "new P|pop", "sget C.none num|pop", "num 1|sput C.i num", "null|is C|pop"};
        int[][] due = {{2100, 2300}, {2100, 2300}, {2100, 2300}, {2101, 2100, 2300}, {2300}, {2300}, {2200, 2300}, {2300}, {2400}, {2400}, {2300}, {}, {}, {}};
        for (int i = 0; i < lines.length; i++) {
            Calls c = world(lib.replace("%", lines[i]));
            int[] all = new int[due[i].length + 1];
            all[0] = 2600;
            System.arraycopy(due[i], 0, all, 1, due[i].length);
            reached(c, 26, 0, all);
        }
        // what is called of an object starts nothing, nor does special
        Calls none = world("class B : Thing" + start + MAKE + "|method private h()none|room 0 1|done|method v()none|room 0 1|done|method static f()none|room 2 1|null|rstore 0|null|call B.v()none|done|method g()none|room 1 1|rload 0|special B.v()none|rload 0|call B.h()none|done"
            + "|method static k()none|room 2 0|new B|special B.<make>()none|done|end");
        reached(none, 21, 4, 2104, 2103);
        reached(none, 21, 5, 2105, 2103, 2102);
        reached(none, 21, 6, 2106, 2100, 2101);
        // STARTED ones are not, nor what is above them; FAILED ones are
        Calls c = world(lib.replace("%", "new C|pop|sget C.i num|pop"));
        c.call(0, 0, "C.t()none");
        c.x.step(0, 99);
        Calls.due("B STARTED", c.x.told(0, 22, 5), 2);
        reached(c, 26, 0, 2600, 2100, 2400);
        c.call(0, 0, "A.f()none");
        c.x.step(0, 99);
        reached(c, 26, 0, 2600);
        c = world("class F : P" + start.replace("done", "null|throw").replace("room 0 0", "room 1 0") + "|field static x num|end|class P : Thing" + start + "|end|class A : Thing|method static f()none|room 1 0|sget F.x num|pop|done|end");
        c.call(0, 0, "A.f()none");
        c.x.step(0, 99);
        Calls.due("F FAILED", c.x.told(0, 21, 5), 3);
        Calls.due("P STARTED", c.x.told(0, 22, 5), 2);
        reached(c, 23, 0, 2300, 2100);
        c = world("class G : P" + start.replace("done", "nop|done") + "|field static x num|end|class P : Thing" + start + "|end|class A : Thing|method static f()none|room 1 0|sget G.x num|pop|done|end");
        c.call(0, 0, "A.f()none");
        c.x.step(0, 2);
        Calls.due("G GOES ON", c.x.told(0, 21, 5), 1);
        reached(c, 23, 0, 2300, 2100);
    }

    /** "in the order in which they are come to, one method after the other, by its instructions". */
    private static void reachedInOrder() {
        Calls c = world("class A : Thing|method static a()none|room 0 0|static A.c()none|static A.b()none|done|method static b()none|room 0 0|static A.e()none|done|method static c()none|room 0 0|static A.d()none|static A.b()none|done|method static d()none|room 0 0|static A.e()none|done"
            + "|method static e()none|room 0 0|static A.a()none|static A.f()none|done|method static f()none|room 0 0|done|end");
        reached(c, 21, 0, 2100, 2102, 2101, 2103, 2104, 2105);
        reached(c, 21, 3, 2103, 2104, 2100, 2105, 2102, 2101);
        reached(c, 21, 5, 2105);
        // each of 12 methods of 8 classes, one by the other
        Calls all = new Calls();
        all.x.world(0);
        StringBuilder text = new StringBuilder();
        for (int k = 0; k < 8; k++) {
            text.append("class C").append(k).append(":Thing\n");
            for (int m = 0; m < 12; m++) {
                int next = 12 * k + m + 1;
                text.append("method static m").append(m).append("()none\nroom 0 0\n").append(next < 96 ? "static C" + next / 12 + ".m" + next % 12 + "()none\n" : "").append("done\n");
            }
            text.append("end\n");
        }
        Calls.due("a text", all.define(0, text.toString()), 8);
        Calls.due("all", all.x.reach(0, 21, 0), 96);
        for (int i = 0; i < 96; i++) {
            Calls.due("reached " + i, all.x.reached(i), 100 * (21 + i / 12) + i % 12);
        }
        Calls.due("no more", all.x.reached(96), -2);
    }
}
