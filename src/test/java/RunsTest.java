/** Promises 6 to 8: calls, turns, steps, starts, locks, faults, and what is told of them. */
public final class RunsTest {
    public static void main(String[] args) {
        calls();
        arithmetic();
        jumps();
        objectsAndRows();
        faults();
        rules();
        whichIsCalled();
        starts();
        startsFail();
        turns();
        locks();
        classWaits();
        deep();
        room();
        brokenAtRun();
        Calls.end();
    }

    private static Calls world(String told) {
        Calls c = new Calls();
        c.x.world(0);
        c.tape(told.replace('|', '\n'));
        if (c.x.define(0) < 0) {
            Calls.due("a text of " + told, c.x.place(), -2);
        }
        return c;
    }

    private static void calls() {
        Calls c = world("class A : Thing|method static f(num,num)num|room 2 2|nload 0|nload 1|sub|ndone|end");
        refused(c, "^");
        refused(c, "A.f(num,num)num : 1^");
        refused(c, "A.f(num,num)num : 1, 2^, 3");
        refused(c, "A.f(num,num)num^");
        refused(c, "A.f()num ^: 1");
        refused(c, "A.f(^row)num : 1");
        refused(c, "A.^<make>()none");
        refused(c, "^num.f()none");
        refused(c, "A.f()^null");
        refused(c, "A.f(num,num,num,num,num,num,^num)num : 1, 2, 3, 4, 5, 6, 7");
        refused(c, "A.f()num|^A.f()num");
        refused(c, "A.f()num ^: ");
        Calls.due("no world", c.call(1, 0, ""), -1);
        Calls.due("no thread", c.call(0, 3, ""), -1);
        Calls.due("no thread", c.call(0, -1, ""), -1);
        Calls.due("step without a run", c.x.step(0, 1), -2);
        Calls.due("run without a run", c.x.run(0, 0, 0), -2);
        Calls.due("call", c.call(0, 0, "|A.f(num,num)num : 5, 7 # here|".replace('|', '\n')), 0);
        Calls.due("place", c.x.place(), -2);
        c.tape("A");
        Calls.due("it is on", c.x.call(0, 0), -2);
        Calls.due("the tape stays", c.x.count(2), 1);
        c.x.cut(1);
        Calls.due("step 0", c.x.step(0, 0), -1);
        Calls.due("step 4001", c.x.step(0, 4001), -1);
        Calls.due("step nowhere", c.x.step(1, 1), -1);
        Calls.due("on", c.x.run(0, 0, 0), 1);
        Calls.due("no frames yet", c.x.run(0, 0, 6), 0);
        Calls.due("two steps", c.x.step(0, 2), 1);
        Calls.due("the frame's class", c.x.run(0, 0, 7), 21);
        Calls.due("its method", c.x.run(0, 0, 8), 0);
        Calls.due("its instruction", c.x.run(0, 0, 9), 2);
        Calls.due("frames", c.x.run(0, 0, 6), 1);
        Calls.due("top", c.x.value(0, 0, true, 0), 7);
        Calls.due("below", c.x.value(0, 0, true, 1), 5);
        Calls.due("no more", c.x.value(0, 0, true, 2), -1);
        Calls.due("local", c.x.value(0, 0, false, 1), 7);
        Calls.due("no local", c.x.value(0, 0, false, 2), -1);
        Calls.due("no local", c.x.value(0, 0, false, -1), -1);
        Calls.due("no thread", c.x.value(0, 1, false, 0), -1);
        Calls.due("to the end", c.x.step(0, 2), 0);
        Calls.due("ended", c.x.run(0, 0, 0), 0);
        Calls.due("steps", c.x.run(0, 0, 1), 4);
        Calls.due("with a number", c.x.run(0, 0, 2), 1);
        Calls.due("which", c.x.run(0, 0, 3), -2);
        Calls.due("no value", c.x.value(0, 0, false, 0), -1);
        Calls.due("run 14", c.x.run(0, 0, 14), -1);
        Calls.due("run -1", c.x.run(0, 0, -1), -1);
        Calls.due("steps of the house", c.x.count(1), 59996);
        Calls.due("nothing is on", c.x.step(0, 4000), 0);
        refused(c, "A.f(num)num^");
        Calls.due("no run any more", c.x.run(0, 0, 0), -2);
        Calls.due("nor steps", c.x.run(0, 0, 1), 0);
        Calls.due("no such quantum", c.x.quantum(0, 0), -1);
        Calls.due("no such quantum", c.x.quantum(0, 201), -1);
        Calls.due("quantum nowhere", c.x.quantum(1, 1), -1);
        Calls.due("halt nowhere", c.x.halt(1), -1);
    }

    private static void refused(Calls c, String told) {
        Calls.due(told, c.call(0, 0, told.replace('|', '\n').replace("^", "")), -11);
        Calls.due("place of " + told, c.x.place(), told.indexOf('^'));
    }

    /** What a static method f of no arguments, of these lines, ends with: the run's what. */
    private static int ends(int what, String result, String lines) {
        Calls c = world("class A : Thing|field x num|field r Thing|field static s row|field static t A|field final static z num = 8"
            + "|method <make>()none|room 1 1|rload 0|special Thing.<make>()none|done|method static f()" + result + "|room 9 9|" + lines + "|end");
        Calls.due(lines, c.call(0, 0, "A.f()" + result), 0);
        Calls.due(lines, c.x.step(0, 4000), 0);
        return c.x.run(0, 0, what);
    }

    private static void number(int due, String lines) {
        Calls.due(lines, ends(2, "num", lines + "|ndone"), 1);
        Calls.due(lines, ends(3, "num", lines + "|ndone"), due);
    }

    private static void arithmetic() {
        number(Integer.MIN_VALUE, "num 2147483647|num 1|add");
        number(Integer.MAX_VALUE, "num -2147483648|num 1|sub");
        number(-2, "num 2147483647|num 2|mul");
        number(-3, "num -7|num 2|div");
        number(-1, "num -7|num 2|rem");
        number(1, "num 7|num -2|rem");
        number(Integer.MIN_VALUE, "num -2147483648|num -1|div");
        number(0, "num -2147483648|num -1|rem");
        number(Integer.MIN_VALUE, "num -2147483648|neg");
        number(4, "num 6|num 12|and");
        number(14, "num 6|num 12|or");
        number(10, "num 6|num 12|xor");
        number(2, "num 1|num 33|shl");
        number(-1, "num -8|num 31|shr");
        number(-4, "num -8|num -31|shr");
        number(Integer.MIN_VALUE, "num 2147483647|nstore 3|inc 3 1|nload 3");
        number(-1, "num 1|num 2|sub");
        number(1, "num 1|num 2|swap|sub");
        number(3, "num 1|num 2|dupx|sub|sub");
        number(9, "num 3|dup|mul|nop|num 4|pop");
    }

    private static void jumps() {
        String[] ops = {"if0", "ifn0", "ifl", "ifge", "ifg", "ifle"};
        String[] pairs = {"eq", "ne", "lt", "ge", "gt", "le"};
        String due = "010" + "101" + "100" + "011" + "001" + "110";
        for (int i = 0; i < 6; i++) {
            for (int v = -1; v <= 1; v++) {
                number(due.charAt(3 * i + v + 1) - '0', "num " + v + "|" + ops[i] + " L|num 0|ndone|frame;|L: num 1");
                number(due.charAt(3 * i + v + 1) - '0', "num " + v + "|num 0|" + pairs[i] + " L|num 0|ndone|frame;|L: num 1");
            }
        }
        number(1, "null|isnull L|num 0|ndone|frame;|L: num 1");
        number(0, "null|notnull L|num 0|ndone|frame;|L: num 1");
        number(1, "null|null|same L|num 0|ndone|frame;|L: num 1");
        number(0, "null|null|other L|num 0|ndone|frame;|L: num 1");
        String pick = "|pick -1 L, M, N|frame;|L: num 10|ndone|frame;|M: num 11|ndone|frame;|N: num 12";
        number(10, "num -1" + pick);
        number(11, "num 0" + pick);
        number(12, "num 1" + pick);
        number(12, "num -2" + pick);
        number(12, "num 2147483647" + pick);
        number(12, "num -2147483648" + pick.replace("-1", "2147483647"));
        number(5, "num 1|pick 1 L|frame;|L: num 5");
        number(5, "jump L|frame;|nop|frame;|L: num 5");
    }

    private static void objectsAndRows() {
        number(0, "num 2|newrow|num 1|get");
        number(4, "num 2|newrow|dup|num 1|num 4|put|num 1|get");
        number(300, "num 300|newrow|size");
        number(0, "num 0|newrow|size");
        String made = "new A|dup|special A.<make>()none";
        number(0, made + "|fget A.x num");
        number(3, made + "|dup|num 3|fput A.x num|fget A.x num");
        number(1, made + "|is A");
        number(1, made + "|is Thing");
        number(0, made + "|is Fault");
        number(0, "null|is Nowhere");
        number(1, "num 1|newrow|is Thing");
        number(0, "num 1|newrow|is A");
        number(8, "sget A.z num");
        number(6, "null|cast Nowhere|pop|num 6");
        Calls.due("nothing", ends(2, "none", "done"), 0);
        Calls.due("null", ends(2, "row", "null|rdone"), 2);
        Calls.due("a row", ends(2, "row", "num 0|newrow|rdone"), 3);
        Calls.due("no class", ends(4, "row", "num 0|newrow|rdone"), -2);
        Calls.due("an object", ends(2, "Thing", made + "|rdone"), 4);
        Calls.due("its class", ends(4, "Thing", made + "|rdone"), 21);
        Calls.due("not a number", ends(3, "Thing", made + "|rdone"), 0);
        Calls c = world("class P : Thing|field a num|field static q num|field b Thing|end|class C : P|field d num|field e row"
            + "|method static f()none|room 4 3|new C|rstore 0|num 3|newrow|rstore 1|rload 1|num 2|num 7|put|nop|done|end");
        c.call(0, 0, "C.f()none");
        c.x.step(0, 9);
        Calls.due("objects", c.x.run(0, 0, 10), 2);
        Calls.due("fields and elements", c.x.run(0, 2, 11), 7);
        Calls.due("class", c.x.object(0, 1, -1), 22);
        Calls.due("locks", c.x.object(0, 1, -2), 0);
        Calls.due("fields", c.x.object(0, 1, -3), 4);
        for (int i = 0; i < 4; i++) {
            Calls.due("field " + i, c.x.object(0, 1, i), 0);
        }
        Calls.due("no field", c.x.object(0, 1, 4), -1);
        Calls.due("a row", c.x.object(0, 2, -1), -2);
        Calls.due("elements", c.x.object(0, 2, -3), 3);
        Calls.due("element", c.x.object(0, 2, 2), 7);
        Calls.due("no what", c.x.object(0, 2, -4), -1);
        Calls.due("no object", c.x.object(0, 3, -1), -1);
        Calls.due("no object", c.x.object(0, 0, -1), -1);
        Calls.due("no world", c.x.object(1, 1, -1), -1);
        Calls.due("a reference's number", c.x.value(0, 0, false, 1), 2);
        Calls.due("0 behind", c.x.value(0, 0, false, 2), 0);
        Calls.due("fixed", c.x.fixed(0, 21, 1), 0);
        Calls.due("not static", c.x.fixed(0, 21, 0), -1);
        Calls.due("no field", c.x.fixed(0, 21, 3), -1);
        Calls.due("no class", c.x.fixed(0, 23, 0), -1);
    }

    private static void failed(int rule, int cls, String lines) {
        Calls.due(lines, ends(0, "num", lines + "|num 1|ndone"), 2);
        Calls.due("class of " + lines, ends(4, "num", lines + "|num 1|ndone"), cls);
        Calls.due("rule of " + lines, ends(5, "num", lines + "|num 1|ndone"), rule);
    }

    private static void faults() {
        failed(0, 2, "null|num 0|get");
        failed(0, 2, "null|size");
        failed(0, 2, "null|throw|frame;|nop");
        failed(0, 2, "null|enter");
        failed(0, 2, "null|leave");
        failed(0, 2, "null|fget A.x num");
        failed(51, 12, "null|fget A.y num");
        failed(0, 3, "num 1|num 0|div");
        failed(0, 3, "num 1|num 0|rem");
        failed(0, 4, "num 1|newrow|num 1|get");
        failed(0, 4, "num 1|newrow|num -1|num 0|put");
        failed(0, 5, "num -1|newrow");
        failed(0, 9, "num 301|newrow");
        failed(0, 6, "num 1|newrow|cast A");
        failed(50, 11, "num 1|newrow|cast Nowhere");
        failed(50, 11, "num 1|newrow|is Nowhere");
        failed(0, 7, "num 1|newrow|leave");
        failed(0, 2, "new NullFault|dup|special NullFault.<make>()none|throw|frame;|nop");
        number(7, "handler a b c LinkFault|handler a b c ZeroFault|a: num 1|num 0|div|b: ndone|frame;Fault|c: pop|num 7");
        failed(0, 3, "handler a b c LinkFault|a: num 1|num 0|div|b: ndone|frame;Fault|c: pop|num 7");
    }

    private static void rules() {
        String lib = "class B : Thing|field private p num|field final e num|field static final g num|method private h()none|room 0 1|done"
            + "|method static private k()none|room 0 0|done|method v()none|room 0 1|done|end"
            + "|abstract class C : B|method abstract w()none|end|face class I : Thing|field static final i num = 1|method abstract u()none|end"
            + "|class Bad : Nowhere|end|class A : B|method static f()none|room 5 1|";
        rule(lib, 50, 11, "new Nowhere|pop");
        rule(lib, 20, 11, "new Bad|pop");
        rule(lib, 57, 19, "new C|pop");
        rule(lib, 57, 19, "new I|pop");
        rule(lib, 50, 11, "sget Nowhere.x num|pop");
        rule(lib, 20, 11, "sget Bad.x num|pop");
        rule(lib, 51, 12, "sget B.x num|pop");
        rule(lib, 51, 12, "sget B.g row|pop");
        rule(lib, 53, 14, "null|fget A.p num|pop");
        rule(lib, 55, 15, "sget B.e num|pop");
        rule(lib, 55, 15, "null|fget B.g num|pop");
        rule(lib, 55, 15, "null|fget I.i num|pop");
        rule(lib, 54, 14, "num 1|sput B.g num");
        rule(lib, 54, 14, "null|num 1|fput B.e num");
        rule(lib, 50, 11, "static Nowhere.f()none");
        rule(lib, 20, 11, "null|call Bad.f()none");
        rule(lib, 56, 15, "null|call I.u()none");
        rule(lib, 56, 15, "null|facecall B.v()none");
        rule(lib, 52, 13, "null|call B.v()num|pop");
        rule(lib, 52, 13, "null|num 1|call B.v(num)none");
        rule(lib, 53, 14, "null|call B.h()none");
        rule(lib, 53, 14, "static A.k()none");
        rule(lib, 55, 15, "null|call A.f()none");
        rule(lib, 55, 15, "static B.v()none");
        rule(lib, 0, 2, "null|call B.v()none");
    }

    private static void rule(String lib, int rule, int cls, String lines) {
        Calls c = world(lib + lines + "|done|end");
        c.call(0, 0, "A.f()none");
        Calls.due(lines, c.x.step(0, 100), 0);
        Calls.due("rule of " + lines, c.x.run(0, 0, 5), rule);
        Calls.due("class of " + lines, c.x.run(0, 0, 4), cls);
    }

    private static void whichIsCalled() {
        String make = "|method <make>()none|room 1 1|rload 0|special Thing.<make>()none|done";
        String lib = "face class I : Thing|method m()num|room 1 1|num 1|ndone|end|face class J : Thing, I|method abstract m()num|end"
            + "|face class K : Thing|method m()num|room 1 1|num 3|ndone|end"
            + "|class P : Thing, J, K" + make + "|method private s()num|room 1 1|num 4|ndone|method static r(P)num|room 1 1|rload 0|call P.s()num|ndone"
            + "|end|class Q : P|method <make>()none|room 1 1|rload 0|special P.<make>()none|done|method s()num|room 1 1|num 5|ndone|end"
            + "|class N : Thing" + make + "|end|abstract class U : Thing, J|method <make>()none|room 1 1|rload 0|special Thing.<make>()none|done|method abstract m()num|end"
            + "|class V : U|method <make>()none|room 1 1|rload 0|special U.<make>()none|done|end"
            + "|class A : Thing|method static f()num|room 3 0|";
        called(lib, 1, 1, "new P|dup|special P.<make>()none|call P.m()num");
        called(lib, 1, 1, "new Q|dup|special Q.<make>()none|facecall K.m()num");
        called(lib, 1, 4, "new Q|dup|special Q.<make>()none|static P.r(P)num");
        called(lib, 1, 5, "new Q|dup|special Q.<make>()none|call Q.s()num");
        called(lib, 4, 59, "new N|dup|special N.<make>()none|facecall K.m()num");
        called(lib, 4, 59, "num 1|newrow|cast Thing|facecall K.m()num");
        called(lib, 4, 58, "new V|dup|special V.<make>()none|facecall J.m()num");
        called(lib, 4, 58, "new V|dup|special V.<make>()none|call V.m()num");
    }

    private static void called(String lib, int kind, int due, String lines) {
        Calls c = world(lib + lines + "|ndone|end");
        c.call(0, 0, "A.f()num");
        c.x.step(0, 100);
        Calls.due(lines, c.x.run(0, 0, 0), kind == 1 ? 0 : 2);
        Calls.due(lines, c.x.run(0, 0, kind == 1 ? 3 : 5), due);
    }

    private static void starts() {
        Calls c = world("class A : B, F|field static x num = 3|method static <start>()none|room 2 0|sget B.y num|sput A.x num|done"
            + "|method static f()num|room 2 0|sget A.x num|ndone|end"
            + "|class B : C|field static y num = 10|field static z num|end|class C : Thing|method static <start>()none|room 2 0|sget A.x num|sput B.z num|done|end"
            + "|face class F : Thing|method static <start>()none|room 0 0|done|end");
        c.call(0, 0, "A.f()num");
        Calls.due("not begun", c.x.told(0, 21, 5), 0);
        c.x.step(0, 1);
        int[] states = {1, 1, 1, 0};
        for (int i = 0; i < 4; i++) {
            Calls.due("state of " + i, c.x.told(0, 21 + i, 5), states[i]);
        }
        Calls.due("three were begun", c.x.run(0, 0, 12), 3);
        for (int i = 0; i < 3; i++) {
            Calls.due("begun " + i, c.x.started(0, i), 21 + i);
        }
        Calls.due("no fourth", c.x.started(0, 3), -1);
        Calls.due("none below", c.x.started(0, -1), -1);
        Calls.due("the start of C", c.x.run(0, 0, 7), 23);
        c.x.step(0, 2);
        Calls.due("C is started with its last step", c.x.told(0, 23, 5), 2);
        Calls.due("nothing behind it", c.x.run(0, 0, 6), 0);
        Calls.due("B goes on", c.x.told(0, 22, 5), 1);
        c.x.step(0, 1);
        Calls.due("B is started", c.x.told(0, 22, 5), 2);
        Calls.due("the start of A", c.x.run(0, 0, 7), 21);
        c.x.step(0, 2);
        Calls.due("A is started", c.x.told(0, 21, 5), 2);
        Calls.due("the run has no frame yet", c.x.run(0, 0, 6), 0);
        c.x.step(0, 2);
        Calls.due("x of A as B's y was", c.x.run(0, 0, 3), 10);
        Calls.due("z of B as A's x was", c.x.fixed(0, 22, 1), 3);
        Calls.due("steps", c.x.run(0, 0, 1), 8);
        Calls.due("the face is new", c.x.told(0, 24, 5), 0);
    }

    private static void startsFail() {
        String lib = "class A : B|method static f()num|room 1 0|num 1|ndone|end|class B : Thing|method static <start>()none|room 2 0|";
        String use = "|end|class U : Thing|method static f()num|room 2 0|a: static A.f()num|ndone|b:|frame;Fault|c: pop|num 9|ndone|handler a b c any|end";
        int[][] due = {{20, 0, 2}, {10, 0, 2}, {18, 0, 3}};
        String[] lines = {"num 1|num 0|div|pop|done", "new LinkFault|dup|special LinkFault.<make>()none|throw",
            "nop|new BodyFault|dup|special BodyFault.<make>()none|throw"};
        for (int i = 0; i < 3; i++) {
            Calls c = world(lib + lines[i] + use);
            c.call(0, 0, "A.f()num");
            c.x.step(0, 100);
            Calls.due("failed " + lines[i], c.x.run(0, 0, 0), 2);
            Calls.due("with " + lines[i], c.x.run(0, 0, 4), due[i][0]);
            Calls.due("rule " + lines[i], c.x.run(0, 0, 5), due[i][1]);
            Calls.due("A " + lines[i], c.x.told(0, 21, 5), 3);
            Calls.due("B " + lines[i], c.x.told(0, 22, 5), 3);
            c.call(0, 0, "A.f()num");
            Calls.due("no step", c.x.step(0, 100), 0);
            Calls.due("FAILED: ClassFault", c.x.run(0, 0, 4), 11);
            Calls.due("no rule", c.x.run(0, 0, 5), 0);
            Calls.due("steps", c.x.run(0, 0, 1), 0);
            c.call(0, 1, "U.f()num");
            c.x.step(0, 100);
            Calls.due("caught", c.x.run(0, 1, 3), 9);
            Calls.due("a step that throws, and three", c.x.run(0, 1, 1), 4);
        }
        Calls c = world(lib + lines[0] + use);
        c.call(0, 0, "U.f()num");
        c.x.step(0, 100);
        Calls.due("caught", c.x.run(0, 0, 3), 9);
        Calls.due("thrown without a step", c.x.run(0, 0, 1), 6);
        c = world("class A : Nowhere|method static f()none|room 0 0|done|end");
        c.call(0, 0, "A.f()none");
        Calls.due("nothing is done", c.x.step(0, 5), 0);
        Calls.due("linking failed", c.x.run(0, 0, 5), 20);
        Calls.due("and it stays new", c.x.told(0, 21, 5), 0);
    }

    private static void turns() {
        String loop = "|frame num;|L: inc 0 -1|nload 0|ifg L|nload 0|ndone|end";
        Calls c = world("class A : Thing|method static f(num)num|room 1 1" + loop);
        Calls.due("present", c.x.run(0, 0, 13), 0);
        c.call(0, 2, "A.f(num)num : 100");
        c.call(0, 0, "A.f(num)num : 100");
        Calls.due("quantum", c.x.quantum(0, 3), 50);
        Calls.due("cut", c.x.step(0, 50), 1);
        Calls.due("the first turn has 50 steps", c.x.run(0, 0, 1), 50);
        Calls.due("no other", c.x.run(0, 2, 1), 0);
        Calls.due("nothing behind the last step", c.x.run(0, 0, 13), 0);
        c.x.step(0, 4);
        Calls.due("2 had 3", c.x.run(0, 2, 1), 3);
        Calls.due("0 again", c.x.run(0, 0, 1), 51);
        Calls.due("present", c.x.run(0, 0, 13), 0);
        c.call(0, 1, "A.f(num)num : 1");
        c.x.step(0, 4);
        Calls.due("0 ends its turn", c.x.run(0, 0, 1), 53);
        Calls.due("1 is the next one", c.x.run(0, 1, 1), 2);
        c.x.step(0, 10);
        Calls.due("1 ends in its second turn", c.x.run(0, 1, 0), 0);
        Calls.due("its steps", c.x.run(0, 1, 1), 5);
        Calls.due("2", c.x.run(0, 2, 1), 7);
        Calls.due("0", c.x.run(0, 0, 1), 56);
        Calls.due("halt", c.x.halt(0), 2);
        Calls.due("no run", c.x.run(0, 0, 0), -2);
        Calls.due("step", c.x.step(0, 1), -2);
        Calls.due("halt again", c.x.halt(0), 0);
        c.call(0, 0, "A.f(num)num : 1");
        c.x.step(0, 5);
        c.call(0, 0, "A.f(num)num : 100");
        c.call(0, 1, "A.f(num)num : 100");
        c.x.step(0, 4);
        Calls.due("a run that was begun anew has no turn", c.x.run(0, 0, 1), 1);
        Calls.due("the next one has it", c.x.run(0, 1, 1), 3);
        c.x.halt(0);
        c.call(0, 0, "A.f(num)num : 2000");
        for (int i = 0; i < 19; i++) {
            Calls.due("step", c.x.step(0, 3000), 1);
            c.x.halt(0);
            c.call(0, 0, "A.f(num)num : 2000");
        }
        Calls.due("few steps are left", c.x.step(0, 3000), -3);
        Calls.due("so many are", c.x.step(0, c.x.count(1)), 1);
        Calls.due("none is", c.x.count(1), 0);
        Calls.due("FULL", c.x.step(0, 1), -3);
    }

    private static void locks() {
        Calls c = world("class K : Thing|field static o row|method static set()none|room 2 0|num 1|newrow|sput K.o row|done"
            + "|method static in()none|room 2 0|sget K.o row|enter|done|method static out()none|room 2 0|sget K.o row|leave|done|end");
        c.call(0, 0, "K.set()none");
        c.x.step(0, 100);
        Calls.due("no locks", c.x.object(0, 1, -2), 0);
        c.call(0, 0, "K.in()none");
        c.x.step(0, 100);
        c.call(0, 0, "K.in()none");
        c.x.step(0, 100);
        Calls.due("two locks are kept", c.x.object(0, 1, -2), 2);
        c.call(0, 1, "K.out()none");
        c.x.step(0, 100);
        Calls.due("of another one", c.x.run(0, 1, 4), 7);
        Calls.due("two", c.x.object(0, 1, -2), 2);
        c.call(0, 1, "K.in()none");
        Calls.due("on", c.x.run(0, 1, 0), 1);
        Calls.due("stuck", c.x.step(0, 100), 3);
        Calls.due("it waits", c.x.run(0, 1, 0), 4);
        Calls.due("it did a step", c.x.run(0, 1, 1), 1);
        Calls.due("stuck, nothing is done", c.x.step(0, 100), 3);
        c.call(0, 0, "K.out()none");
        Calls.due("cut before the other one's", c.x.step(0, 3), 1);
        Calls.due("one", c.x.object(0, 1, -2), 1);
        Calls.due("it waits still", c.x.run(0, 1, 0), 4);
        c.call(0, 0, "K.out()none");
        c.x.step(0, 2);
        Calls.due("none", c.x.object(0, 1, -2), 0);
        Calls.due("it waits no more", c.x.run(0, 1, 0), 1);
        Calls.due("all end", c.x.step(0, 100), 0);
        Calls.due("one", c.x.object(0, 1, -2), 1);
        c.x.halt(0);
        Calls.due("halt frees all", c.x.object(0, 1, -2), 0);
        c.call(0, 2, "K.out()none");
        c.x.step(0, 100);
        Calls.due("LockFault", c.x.run(0, 2, 4), 7);
    }

    private static void classWaits() {
        Calls c = world("class A : Thing|field static x num|method static <start>()none|room 1 1|num 9|nstore 0|frame num;|L: inc 0 -1|nload 0|ifg L"
            + "|num 5|sput A.x num|done|method static f()num|room 1 0|sget A.x num|ndone|end|class B : A|method static g()num|room 1 0|sget B.x num|ndone|end");
        c.call(0, 0, "A.f()num");
        c.call(0, 1, "B.g()num");
        c.x.quantum(0, 4);
        c.x.step(0, 1);
        c.x.halt(0);
        Calls.due("its start went on, so it FAILED", c.x.told(0, 21, 5), 3);
        c = world("class A : Thing|field static x num|method static <start>()none|room 1 1|num 9|nstore 0|frame num;|L: inc 0 -1|nload 0|ifg L"
            + "|num 5|sput A.x num|done|method static f()num|room 1 0|sget A.x num|ndone|end|class B : A|method static g()num|room 1 0|sget B.x num|ndone|end");
        c.call(0, 0, "A.f()num");
        c.x.quantum(0, 4);
        c.x.halt(0);
        c.call(0, 0, "A.f()num");
        c.call(0, 1, "B.g()num");
        c.x.step(0, 5);
        Calls.due("B's start goes on, and waits for A's", c.x.told(0, 22, 5), 1);
        Calls.due("B's run waits", c.x.run(0, 1, 0), 4);
        Calls.due("without a frame", c.x.run(0, 1, 6), 0);
        Calls.due("present", c.x.run(0, 0, 13), 0);
        Calls.due("all", c.x.step(0, 100), 0);
        Calls.due("A", c.x.run(0, 0, 3), 5);
        Calls.due("B", c.x.run(0, 1, 3), 5);
        Calls.due("B's steps", c.x.run(0, 1, 1), 2);
    }

    private static void deep() {
        Calls c = world("class A : Thing|method static f(num)none|room 1 1|nload 0|num: static A.f(num)none|done|end"
            + "|class S : Thing|field static v num|method static <start>()none|room 0 0|done|end"
            + "|class D : Thing|method static f(num)num|room 2 1|nload 0|if0 L|inc 0 -1|nload 0|static D.f(num)num|ndone|frame num;|L: sget S.v num|ndone|end");
        c.call(0, 0, "A.f(num)none : 1");
        c.x.step(0, 79);
        Calls.due("40 frames", c.x.run(0, 0, 6), 40);
        c.x.step(0, 1);
        Calls.due("DeepFault", c.x.run(0, 0, 4), 8);
        c.call(0, 0, "D.f(num)num : 38");
        c.x.step(0, 1000);
        Calls.due("a <start> in the 40th frame", c.x.run(0, 0, 0), 0);
        c = world("class S : Thing|field static v num|method static <start>()none|room 0 0|done|end"
            + "|class D : Thing|method static f(num)num|room 2 1|nload 0|if0 L|inc 0 -1|nload 0|static D.f(num)num|ndone|frame num;|L: sget S.v num|ndone|end");
        c.call(0, 0, "D.f(num)num : 39");
        c.x.step(0, 1000);
        Calls.due("none for a <start>", c.x.run(0, 0, 4), 20);
        Calls.due("its class FAILED", c.x.told(0, 21, 5), 3);
    }

    private static void room() {
        Calls c = world("class A : Thing|field a num|field static r Thing|method static rows(num)none|room 2 1|frame num;|L: num 300|newrow|pop|inc 0 -1|nload 0|ifg L|done"
            + "|method static many(num)none|room 2 1|frame num;|L: new A|pop|inc 0 -1|nload 0|ifg L|done"
            + "|method static keep()none|room 2 1|new A|rstore 0|nop|done|end");
        c.call(0, 0, "A.rows(num)none : 13");
        c.x.step(0, 4000);
        Calls.due("13 rows", c.x.run(0, 0, 11), 3900);
        c.call(0, 0, "A.rows(num)none : 1");
        c.x.step(0, 4000);
        Calls.due("no room for 300 more", c.x.run(0, 0, 4), 9);
        Calls.due("collect", c.x.collect(0), 13);
        Calls.due("nothing is there", c.x.run(0, 0, 11), 0);
        c.call(0, 0, "A.many(num)none : 799");
        c.x.step(0, 4000);
        Calls.due("799", c.x.run(0, 0, 10), 799);
        c.call(0, 0, "A.many(num)none : 2");
        c.x.step(0, 4000);
        Calls.due("800", c.x.run(0, 0, 10), 800);
        Calls.due("one more", c.x.run(0, 0, 4), 9);
        c.x.collect(0);
        c.call(0, 0, "A.keep()none");
        c.x.step(0, 3);
        Calls.due("the least free number", c.x.value(0, 0, false, 0), 1);
    }

    /** Rules 53, 54 and 57 can be broken. */
    private static void brokenAtRun() {
        String told = "class B : Thing|field static private p num = 4|field static final q num = 5|end|abstract class C : Thing|end"
            + "|class A : Thing|method static f()num|room 3 0|num 6|sput B.q num|new C|pop|sget B.p num|sget B.q num|add|ndone|end";
        int[] breaks = {0, 32 + 64 + 128, 64 + 128, 32 + 128, 32 + 64};
        int[] due = {54, 0, 53, 54, 57};
        for (int i = 0; i < breaks.length; i++) {
            Calls c = new Calls();
            c.x.world(breaks[i]);
            c.define(0, told.replace('|', '\n'));
            c.call(0, 0, "A.f()num");
            c.x.step(0, 100);
            Calls.due("breaks " + breaks[i], c.x.run(0, 0, 5), due[i]);
            Calls.due("breaks " + breaks[i], c.x.run(0, 0, 3), due[i] == 0 ? 10 : 0);
        }
    }
}
