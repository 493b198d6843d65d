/** Promises 9 to 12: written, kinds, foretold, asked, trace, counts, collected, differences, reached methods. */
public final class ToldOfClassesTest {
    public static void main(String[] args) {
        written();
        kindsWithFrames();
        kindsInferred();
        joins();
        rounds();
        foretold();
        asked();
        trace();
        counts();
        collected();
        differences();
        reachedMethods();
        Calls.end();
    }

    private static Calls world(String told) {
        Calls c = new Calls();
        c.x.world(0);
        c.tape(told.replace('|', '\n'));
        if (c.x.define(0) < 0) {
            Calls.due("a text of " + told, c.x.place(), -2);
        }
        return c;
    }

    private static void written() {
        String told = "abstract final class A:P,Q , R\nfield final private static a num=-007\n"
            + "field b row\nmethod abstract f ( num,row , A ) none\nmethod final static g()num\nroom 05 6\n"
            + "x: y: z: pick -3 x,e,y\nframe num , unset,A ;null,unmade\nnop\nhandler x end e any\n"
            + "e: inc 01 -0\ncall A . <make> ( ) none\nfget A . b row\nnew P\nunused: cast A\nhandler e end e P\nframe;\njump e\nend:\nend\n";
        Calls c = new Calls();
        c.x.world(1);
        c.tape(told);
        Calls.due("define", c.x.define(0), 1);
        String due = "final abstract class A: P, Q, R\n field static final private a num = -7\n field b row\n"
            + " method abstract f(num, row, A) none\n method static final g() num\n  room 5 6\n"
            + "  L0: pick -3 L0, L1, L0\n  frame num, unset, A; null, unmade\n  nop\n  L1: inc 1 0\n  call A.<make>() none\n"
            + "  fget A.b row\n  new P\n  cast A\n  frame;\n  jump L1\n  L2:\n  handler L0 L2 L1 any\n  handler L1 L2 L1 P\nend\n";
        Calls.same("A", c.print(0, 21), due);
        Calls.due("its end", c.x.written(due.length()), -1);
        Calls.due("before it", c.x.written(-1), -1);
        c.x.world(1);
        c.tape(due);
        Calls.due("read again", c.x.define(1), 1);
        Calls.due("again as long", c.x.print(1, 21), due.length());
        for (int what = 0; what < 4; what++) {
            Calls.due("no difference", c.x.differ(0, 21, 1, 21, what), 0);
        }
        Calls.due("a built-in one", c.x.print(0, 20), -1);
        Calls.due("none", c.x.print(0, 22), -1);
        Calls.due("nowhere", c.x.print(2, 21), -1);
        Calls.due("what was written stays", c.x.written(0), 'f');
        c = world("class A : Thing|field static x num = 2147483647|field static y num = -2147483648|field static z num = 0|end");
        Calls.same("numbers", c.print(0, 21), "class A: Thing\n field static x num = 2147483647\n"
            + " field static y num = -2147483648\n field static z num = 0\nend\n");
    }

    /** The KINDS at an instruction: locals, |, the stack; . for unset, what kind() tells else. */
    private static String kinds(Calls c, int at) {
        StringBuilder s = new StringBuilder();
        int depth = c.x.kind(at, -1);
        if (depth < 0) {
            return "none";
        }
        for (int k = 0; k < 20 && c.x.kind(at, k) >= 0; k++) {
            s.append(c.x.kind(at, k)).append(' ');
        }
        s.append('|');
        for (int k = 20; k < 20 + depth; k++) {
            s.append(' ').append(c.x.kind(at, k));
        }
        Calls.due("no more on the stack", c.x.kind(at, 20 + depth), -1);
        return s.toString();
    }

    private static void kindsWithFrames() {
        Calls c = world("class A : Thing|field x Late|method <make>(num, row)none|room 3 4|rload 0|new A|null|pop|pop|frame unmade, num; Thing|pop"
            + "|rload 0|special Thing.<make>()none|jump L|nop|L: done|method static f()none|room 1 1|sget A.x Late|done|method static h()none|room 0 0|done|end");
        Calls.due("nothing told yet", c.x.kind(0, -1), -1);
        Calls.due("36 at the one behind the jump", c.x.kinds(0, 21, 0, false), 37005);
        Calls.same("0", kinds(c, 0), "4 0 1 3 |");
        Calls.same("1", kinds(c, 1), "4 0 1 3 | 4");
        Calls.same("2", kinds(c, 2), "4 0 1 3 | 4 5");
        Calls.same("3", kinds(c, 3), "4 0 1 3 | 4 5 2");
        Calls.same("4", kinds(c, 4), "4 0 1 3 | 4 5");
        Calls.same("its frame does not fit", kinds(c, 5), "none");
        Calls.due("no local 4", c.x.kind(0, 4), -1);
        Calls.due("kind -2", c.x.kind(0, -2), -1);
        Calls.due("kind 40", c.x.kind(0, 40), -1);
        Calls.due("instruction -1", c.x.kind(-1, 0), -1);
        Calls.due("instruction 10", c.x.kind(10, 0), -1);
        Calls.due("f", c.x.kinds(0, 21, 1, false), 0);
        Calls.same("a class that is not there", kinds(c, 1), "3 | 99");
        Calls.due("none such", c.x.kinds(0, 21, 3, false), -1);
        Calls.due("none such", c.x.kinds(0, 22, 0, true), -1);
        Calls.due("no body", c.x.kinds(0, 0, 0, true), -1);
        Calls.same("the latest told ones stay", kinds(c, 1), "3 | 99");
        c.define(0, "class Late : Thing", "end");
        Calls.same("as it was", kinds(c, 1), "3 | 99");
        c.x.kinds(0, 21, 1, false);
        Calls.same("it is there", kinds(c, 1), "3 | 122");
        Calls.due("nothing was linked", c.x.told(0, 21, 6), 0);
        c = world("class A : Thing|method static f()num|room 1 1|jump L|nop|L: num 1|ndone|end");
        Calls.due("36", c.x.kinds(0, 21, 0, false), 36000);
        Calls.same("0", kinds(c, 0), "3 |");
        c = world("class A : Thing|method static f()num|room 1 1|jump L|nop|frame ;|L: num 1|pop|pop|nop|num 1|ndone|end");
        Calls.due("36", c.x.kinds(0, 21, 0, false), 36001);
        c = world("class A : Thing|method static f()num|room 1 1|jump L|frame ;|L: num 1|pop|pop|num 1|ndone|end");
        Calls.due("31", c.x.kinds(0, 21, 0, false), 31003);
        Calls.same("where it is broken", kinds(c, 3), "3 |");
        Calls.same("behind it", kinds(c, 4), "none");
    }

    private static void kindsInferred() {
        Calls c = world("class A : Thing|method static f(num)num|room 2 2|nload 0|if0 L|num 1|nstore 1|jump M|L: null|rstore 1|M: nload 0|ndone|nop|end");
        Calls.due("frames aside", c.x.kinds(0, 21, 0, true), 0);
        Calls.same("7", kinds(c, 7), "0 3 |");
        Calls.same("nothing goes to 9", kinds(c, 9), "none");
        Calls.due("with frames", c.x.kinds(0, 21, 0, false), 36001);
        inferred(30000, "f()none", "room 0 0|a: nop|done|b: pop|done|handler a b b any");
        inferred(30000, "f()none", "room 0 0|num 1|done");
        inferred(31000, "f()none", "room 1 0|pop|done");
        inferred(32001, "f()none", "room 1 1|num 1|rstore 0|done");
        inferred(33000, "f()none", "room 1 1|nload 1|done");
        inferred(34000, "f()none", "room 1 1|nload 0|done");
        inferred(39001, "f()none", "room 1 1|new A|enter|done");
        inferred(40000, "<make>()none", "room 1 1|done");
        inferred(41000, "f()num", "room 1 1|done");
        inferred(42001, "f()none", "room 1 1|num 1|special A.<make>()none|done");
        inferred(43001, "f(Late)none", "room 1 1|rload 0|throw|done");
        inferred(35001, "f()none", "room 1 1|num 1|pop");
        inferred(0, "f()none", "room 1 1|L: jump L|pop");
        inferred(37002, "f(num)none", "room 2 1|L: nload 0|num 1|ifg L|done");
        inferred(37004, "f(num)none", "room 2 1|nload 0|ifg L|num 1|jump M|L: null|M: pop|done");
        inferred(0, "f(num)none", "room 2 1|nload 0|ifg L|num 1|jump M|L: num 2|M: pop|done");
        inferred(37003, "f(num)none", "room 2 1|nload 0|nload 0|pick 0 L, M|L: ifg M|M: done");
        c = world("class A : Thing|method static f()none|room 2 2|a: num 1|nstore 0|null|rstore 0|b: done|c: pop|done|handler a b c NullFault|end");
        Calls.due("a store asks its handlers once more", c.x.kinds(0, 21, 0, true), 0);
        Calls.same("what goes to the handler", kinds(c, 5), "3 3 | 102");
        Calls.same("behind both stores", kinds(c, 4), "2 3 |");
    }

    private static void inferred(int due, String sign, String lines) {
        boolean make = sign.charAt(0) == '<';
        Calls c = world("class A : Thing|method " + (make ? "" : "static ") + sign + "|" + lines + "|end");
        Calls.due(lines, c.x.kinds(0, 21, 0, true), due);
    }

    /** What local 0 is where two ways meet. */
    private static void joined(int due, String one, String two) {
        Calls c = world("face class I : Thing|end|class P : Thing, I|end|class Q : P|end|class R : P|end|class S : Gone|end|class T : S|end"
            + "|class A : Thing|field static i I|field static p P|field static q Q|field static r R|field static s S|field static t T|field static g Gone"
            + "|method static f(num)none|room 2 2|nload 0|ifg L|" + one + "|jump M|L: " + two + "|M: done|end");
        Calls.due(one + " " + two, c.x.kinds(0, 27, 0, true), 0);
        Calls.due(one + " " + two, c.x.kind(7, 1), due);
    }

    private static void joins() {
        String num = "num 1|nstore 1";
        String none = "null|rstore 1";
        joined(0, num, num);
        joined(3, num, none);
        joined(3, "nop|nop", num);
        joined(2, none, none);
        String[] names = {"i I", "p P", "q Q", "r R", "s S", "t T", "g Gone"};
        int[][] due = {
            {121, 0, 0, 0, 0, 0, 0},
            {0, 122, 122, 122, 0, 0, 0},
            {0, 122, 123, 122, 0, 0, 0},
            {0, 122, 122, 124, 0, 0, 0},
            {0, 0, 0, 0, 125, 125, 0},
            {0, 0, 0, 0, 125, 126, 0},
            {0, 0, 0, 0, 0, 0, 99}};
        for (int i = 0; i < 7; i++) {
            String one = "sget A." + names[i] + "|rstore 1";
            joined(due[i][i], none, one);
            joined(due[i][i], one, none);
            for (int j = 0; j < 7; j++) {
                joined(due[i][j] == 0 ? 100 : due[i][j], one, "sget A." + names[j] + "|rstore 1");
            }
        }
        Calls c = world("class A : Thing|field static r row|field static p A|method static f(num)none|room 2 2|nload 0|ifg L|sget A.r row|rstore 1"
            + "|jump M|L: sget A.p A|rstore 1|M: done|end");
        Calls.due("a row and a class", c.x.kinds(0, 21, 0, true), 0);
        Calls.due("Thing", c.x.kind(7, 1), 100);
    }

    /** Each round brings what comes one jump further, twice through all: 98 rounds change something, or 100. */
    private static void rounds() {
        for (int jumps = 49; jumps <= 50; jumps++) {
            StringBuilder s = new StringBuilder("class A : Thing|field static s Thing|method static f()none|room 1 1|null|rstore 0|jump J"
                + (jumps - 1) + "|B: sget A.s Thing|rstore 0|jump J" + (jumps - 1) + "|J0: jump B");
            for (int i = 1; i < jumps; i++) {
                s.append("|J").append(i).append(": jump J").append(i - 1);
            }
            Calls c = world(s + "|end");
            Calls.due(jumps + " jumps", c.x.kinds(0, 21, 0, true), jumps == 49 ? 0 : 44000);
        }
    }

    private static void foretold() {
        Calls c = world("class A : Thing|method static f()none|room 9 0|num 1|new Gone|cast Gone|is B|sget A.x num|call B.v()none|static A.f()none|done"
            + "|method static g()none|room 0 0|new B|facecall A.g()none|special A.<make>()none|done|end|class B : Gone|end");
        // A does not link, as f breaks 39: so what names its members fails with that
        int[][] due = {{0, 1, 50}, {0, 2, 50}, {0, 4, 39}, {0, 5, 20}, {0, 6, 39}, {1, 0, 20}, {1, 1, 39}, {1, 2, 39}};
        int n = 0;
        for (int[] one : due) {
            for (int what = 0; what < 3; what++) {
                Calls.due("foretold " + n + " " + what, c.x.foretell(0, 21, n, what), one[what]);
            }
            n++;
        }
        Calls.due("no more", c.x.foretell(0, 21, n, 0), -2);
        Calls.due("none", c.x.foretell(0, 22, 0, 0), -2);
        Calls.due("a built-in class", c.x.foretell(0, 5, 0, 0), -2);
        Calls.due("below", c.x.foretell(0, 21, -1, 0), -1);
        Calls.due("no what", c.x.foretell(0, 21, 0, 3), -1);
        Calls.due("no class", c.x.foretell(0, 23, 0, 0), -1);
        Calls.due("no world", c.x.foretell(1, 21, 0, 0), -1);
        Calls.due("B is linked by that", c.x.told(0, 22, 6), 2011);
        c = world("class A : Thing|method static f()none|room 9 0|static B.f()none|null|call C.m()none|done|end"
            + "|class B : Thing|field private p num|method static f()none|room 0 0|done|end|abstract class C : Thing|method abstract m()none|end");
        Calls.due("no object is looked at", c.x.foretell(0, 21, 0, 0), -2);
        Calls.due("linked", c.x.told(0, 23, 6), 1);
        Calls.due("not started", c.x.told(0, 22, 5), 0);
    }

    private static void asked() {
        Calls c = world("face class I : Thing|method d()num|room 1 1|num 1|ndone|end|abstract class P : Thing, I|method abstract a()none"
            + "|method private p()none|room 0 1|done|method static s()none|room 0 0|done|method v(num,row)I|room 1 3|null|rdone|end"
            + "|class Q : P|method v(num,row)I|room 1 3|null|rdone|end|class R : Gone|end");
        Calls.due("inherited", c.asked(0, 23, "P.d()num"), 2100);
        Calls.due("its own", c.asked(0, 23, "P.v(num, row)I # so"), 2300);
        Calls.due("above", c.asked(0, 22, "\nQ.v(num,row)I\n\n"), 2203);
        Calls.due("private", c.asked(0, 23, "Q.p()none"), 2201);
        Calls.due("place", c.x.place(), -2);
        Calls.due("abstract", c.asked(0, 23, "P.a()none"), -158);
        Calls.due("static", c.asked(0, 23, "P.s()none"), -155);
        Calls.due("none", c.asked(0, 23, "P.v(row,num)I"), -152);
        Calls.due("a face", c.asked(0, 23, "I.d()num"), -156);
        Calls.due("no class", c.asked(0, 23, "Gone.d()num"), -150);
        Calls.due("C does not link", c.asked(0, 23, "R.d()num"), -120);
        Calls.due("k does not link", c.asked(0, 24, "P.d()num"), -120);
        Calls.due("but that is asked behind", c.asked(0, 24, "P.s()none"), -155);
        Calls.due("one that is not below", c.asked(0, 5, "P.d()num"), -158);
        Calls.due("rdone of null", c.x.told(0, 24, 6), 2011);
        notAsked(c, "P.^<make>()none");
        notAsked(c, "P.d()num ^: 1");
        notAsked(c, "P.d()^");
        notAsked(c, "P.d()num|^P.d()num");
        notAsked(c, "^");
        notAsked(c, "P.d(num,num,num,num,num,num,^num)none");
        c.tape("P.d()num");
        Calls.due("no class", c.x.asked(0, 25), -1);
        Calls.due("no world", c.x.asked(1, 0), -1);
        Calls.due("the tape stays", c.x.count(2), 8);
        Calls.due("now it is taken", c.x.asked(0, 23), 2100);
        Calls.due("empty", c.x.count(2), 0);
    }

    private static void notAsked(Calls c, String told) {
        Calls.due(told, c.asked(0, 23, told.replace("^", "").replace('|', '\n')), -11);
        Calls.due("place of " + told, c.x.place(), told.indexOf('^'));
    }

    private static void trace() {
        Calls c = world("class A : B|method static f()num|room 2 0|a: static A.g()none|b: num 1|ndone|frame;Fault|c: pop|num 2|ndone"
            + "|method static g()none|room 2 0|num 1|num 0|div|pop|done|end"
            + "|class B : Thing|method static <start>()none|room 0 0|nop|done|end|class S : Thing|field static x num|method static <start>()none|room 1 0|null|throw|end"
            + "|class U : Thing|method static f()num|room 1 0|sget S.x num|ndone|end");
        c.call(0, 1, "A.f()num");
        c.x.step(0, 100);
        int[][] due = {{4, 1, 21, -2, 0}, {4, 1, 22, -2, 0}, {1, 1, 22, 0, 0}, {2, 1, 22, 0, 2}, {5, 1, 22, -2, 2}, {5, 1, 21, -2, 2},
            {1, 1, 21, 0, 2}, {1, 1, 21, 1, 3}, {3, 1, 21, 1, 6}, {3, 1, 21, 0, 6},
            {4, 0, 24, -2, 0}, {5, 0, 24, -2, 0}, {1, 0, 24, 0, 0}, {4, 0, 23, -2, 0}, {1, 0, 23, 0, 0}, {3, 0, 23, 0, 2}, {6, 0, 23, -2, 2}, {3, 0, 24, 0, 2}};
        c.call(0, 0, "U.f()num");
        c.x.step(0, 100);
        for (int i = 0; i < due.length; i++) {
            for (int what = 0; what < 5; what++) {
                Calls.due("trace " + i + " " + what, c.x.trace(0, i, what), due[i][what]);
            }
        }
        Calls.due("no more", c.x.trace(0, due.length, 0), -2);
        Calls.due("below", c.x.trace(0, -1, 0), -1);
        Calls.due("no what", c.x.trace(0, 0, 5), -1);
        Calls.due("nowhere", c.x.trace(1, 0, 0), -1);
        c = world("class A : Thing|method static f(num)none|room 2 1|frame num;|a: inc 0 -1|null|throw|frame num;Fault|b: pop|nload 0|ifg a|done|handler a b b NullFault|end");
        c.call(0, 0, "A.f(num)none : 400");
        c.x.step(0, 4000);
        Calls.due("taken by a handler", c.x.trace(0, 399, 0), 7);
        Calls.due("its steps", c.x.trace(0, 399, 4), 6 * 396 + 3);
        Calls.due("the first 400", c.x.trace(0, 400, 0), -2);
    }

    private static void counts() {
        Calls c = world("class A : Thing|method static f()num|room 2 0|num 1|num 0|nop|div|ndone|end");
        c.call(0, 0, "A.f()num");
        c.x.step(0, 3);
        Calls.due("nop", c.x.done(0, 0), 1);
        Calls.due("num", c.x.done(0, 1), 2);
        Calls.due("div", c.x.done(0, 11), 0);
        c.x.step(0, 3);
        Calls.due("div threw", c.x.done(0, 11), 1);
        Calls.due("ndone", c.x.done(0, 58), 0);
        Calls.due("op -1", c.x.done(0, -1), -1);
        Calls.due("op 62", c.x.done(0, 62), -1);
        Calls.due("leave", c.x.done(0, 61), 0);
        Calls.due("nowhere", c.x.done(1, 0), -1);
        c.x.halt(0);
        Calls.due("they stay", c.x.done(0, 1), 2);
    }

    private static void collected() {
        Calls c = world("class A : Thing|field n num|field r Thing|field static s Thing|method <make>(Thing)none|room 2 2|rload 0|special Thing.<make>()none"
            + "|rload 0|rload 1|fput A.r Thing|rload 0|num 2|fput A.n num|done|method static f()none|room 4 3|new A|dup|num 4|newrow|special A.<make>(Thing)none"
            + "|sput A.s Thing|new A|rstore 0|num 3|newrow|rstore 1|num 2|nstore 2|new A|pop|nop|nop|null|rstore 0|nop|nop|done|end");
        c.call(0, 0, "A.f()none");
        c.x.step(0, 24);
        Calls.due("objects", c.x.run(0, 0, 10), 5);
        Calls.due("fields", c.x.run(0, 0, 11), 4 + 3 + 3 * 2);
        Calls.due("one is not reached", c.x.collect(0), 1);
        Calls.due("it is there no more", c.x.object(0, 5, -1), -1);
        Calls.due("a static field's is", c.x.object(0, 1, 1), 2);
        Calls.due("its row is", c.x.object(0, 2, -3), 4);
        Calls.due("a local's is", c.x.object(0, 4, -3), 3);
        c.x.step(0, 4);
        Calls.due("a number is no reference", c.x.collect(0), 1);
        Calls.due("three are", c.x.run(0, 0, 10), 3);
        Calls.due("their fields", c.x.run(0, 0, 11), 9);
        Calls.due("they keep what they have", c.x.object(0, 1, 0), 2);
        Calls.due("gone", c.x.object(0, 3, -1), -1);
        c.x.step(0, 100);
        Calls.due("the run's row", c.x.collect(0), 1);
        Calls.due("nothing more", c.x.collect(0), 0);
        Calls.due("nowhere", c.x.collect(1), -1);
    }

    private static void differences() {
        Calls c = world("class A : P, I, J|field a num|field static b num = 0|field c row|method f()none|room 1 1|L: jump L|method g()none|room 1 1|done"
            + "|method h()none|room 1 1|frame A;|done|end|class B : P, J, I|field a row|field static b num|field c row|method f()none|room 1 1|other: some: jump other"
            + "|method g()none|room 1 2|done|method h()none|room 1 1|frame B;|done|method k()none|room 0 1|done|end");
        int[] ab = {1, 2, 0, 2};
        int[] ba = {1, 2, 1, 2};
        for (int what = 0; what < 4; what++) {
            Calls.due("A from B " + what, c.x.differ(0, 21, 0, 22, what), ab[what]);
            Calls.due("B from A " + what, c.x.differ(0, 22, 0, 21, what), ba[what]);
            Calls.due("A from A " + what, c.x.differ(0, 21, 0, 21, what), 0);
        }
        Calls.due("Thing from Fault", c.x.differ(0, 0, 0, 1, 0), 1);
        Calls.due("NullFault from ZeroFault", c.x.differ(0, 2, 0, 3, 0), 0);
        Calls.due("their <make>", c.x.differ(0, 2, 0, 3, 3), 0);
        Calls.due("A from Thing", c.x.differ(0, 21, 0, 0, 2), 3);
        Calls.due("what 4", c.x.differ(0, 21, 0, 21, 4), -1);
        Calls.due("no class", c.x.differ(0, 21, 0, 23, 0), -1);
        Calls.due("no world", c.x.differ(0, 21, 1, 21, 0), -1);
        c = world("class A : Thing|method f()none|room 1 1|pick 1 L, M|frame;|L: nop|M: done|handler L M M any|end"
            + "|class B : Thing|method f()none|room 1 1|pick 1 L, L|frame;|L: nop|M: done|handler L M M any|end"
            + "|class C : Thing|method f()none|room 1 1|pick 1 L, M|frame;|L: nop|M: done|handler L M M Fault|end"
            + "|class D : Thing|method f()none|room 1 1|pick 1 L, M|frame;|L: nop|M: done|handler L M M any|end");
        Calls.due("labels", c.x.differ(0, 21, 0, 22, 3), 1);
        Calls.due("handlers", c.x.differ(0, 21, 0, 23, 3), 1);
        Calls.due("the same", c.x.differ(0, 21, 0, 24, 3), 0);
    }

    private static void reachedMethods() {
        Calls c = world("face class I : Thing|method abstract m()none|end|class P : Thing, I|field static x num|method m()none|room 0 1|done"
            + "|method private q()none|room 1 1|rload 0|facecall I.m()none|done|method static <start>()none|room 0 0|done|end"
            + "|class Q : P|method m()none|room 0 1|done|method static <start>()none|room 1 0|num 1|sput R.y num|done|end"
            + "|abstract class U : Thing, I|method m()none|room 0 1|done|end|class V : U|end|class W : Gone, I|method m()none|room 0 1|done|end"
            + "|class R : Thing|field static y num|method static <start>()none|room 0 0|done|method static go()none|room 1 0|null|call P.q()none"
            + "|new Q|pop|static R.to()none|static Gone.to()none|null|call P.m()none|static R.go()none|done|method static to()none|room 2 1|new Thing|dup"
            + "|special Thing.<make>()none|pop|done|end");
        // not private for R: P.q is not found, so it is not reached
        int[] due = {2701, 2301, 2202, 2702, 2700, 2200, 2300};
        Calls.due("reach", c.x.reach(0, 27, 1), due.length);
        for (int i = 0; i < due.length; i++) {
            Calls.due("reached " + i, c.x.reached(i), due[i]);
        }
        Calls.due("no more", c.x.reached(due.length), -2);
        Calls.due("what objects take", c.x.reach(0, 22, 1), 4);
        int[] face = {2201, 2200, 2300, 2400};
        for (int i = 0; i < face.length; i++) {
            Calls.due("by a face " + i, c.x.reached(i), face[i]);
        }
        Calls.due("W was linked by that", c.x.told(0, 26, 6), 2011);
        Calls.due("a built-in <make>", c.x.reach(0, 3, 0), 1);
        Calls.due("itself", c.x.reached(0), 300);
        Calls.due("no method", c.x.reach(0, 27, 3), -1);
        Calls.due("no class", c.x.reach(0, 28, 0), -1);
        Calls.due("an abstract one", c.x.reach(0, 21, 0), 1);
        c.call(0, 0, "R.to()none");
        c.x.step(0, 100);
        Calls.due("R is started", c.x.told(0, 27, 5), 2);
        Calls.due("so its <start> is not reached", c.x.reach(0, 27, 1), due.length - 1);
    }
}
