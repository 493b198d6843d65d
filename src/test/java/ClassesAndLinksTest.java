/** Promises 4 and 5: what is told of classes and members, linking and checking with each of their rules. */
public final class ClassesAndLinksTest {
    private static final String LIB = "face class I : Thing|method abstract m()num|end"
        + "|class P : Thing, I|method <make>()none|room 1 1|rload 0|special Thing.<make>()none|done"
        + "|method m()num|room 1 1|num 1|ndone|end"
        + "|class Q : P|method <make>()none|room 1 1|rload 0|special P.<make>()none|done|end|";

    public static void main(String[] args) {
        builtIn();
        own();
        linking();
        linkedOnce();
        checkingRules();
        frames();
        handlers();
        makes();
        brokenRules();
        Calls.end();
    }

    private static void builtIn() {
        ClassWorks x = new ClassWorks();
        Calls.due("told without a world", x.told(0, 0, 0), -1);
        x.world(0);
        int[] parents = {-2, 0, 1, 1, 1, 1, 1, 1, 1, 1, 1, 10, 10, 10, 10, 10, 10, 10, 10, 10, 10};
        for (int c = 0; c < 21; c++) {
            Calls.due("parent of " + c, x.told(0, c, 0), parents[c]);
            int[] told = {0, 0, 1, 0, 2, 1};
            for (int what = 1; what <= 6; what++) {
                Calls.due("told " + c + " " + what, x.told(0, c, what), told[what - 1]);
            }
            Calls.due("link " + c, x.link(0, c), 0);
        }
        String name = "StartFault";
        for (int i = 0; i < name.length(); i++) {
            Calls.due("name of 20", x.name(0, 20, 1, -1, i), name.charAt(i));
        }
        Calls.due("its end", x.name(0, 20, 0, -1, 10), -1);
        Calls.due("its begin", x.name(0, 20, 0, -1, -1), -1);
        String make = "<make>";
        for (int i = 0; i < make.length(); i++) {
            Calls.due("its method", x.name(0, 20, 1, 0, i), make.charAt(i));
        }
        for (int what = 0; what < 5; what++) {
            Calls.due("member " + what, x.member(0, 20, 0, what), 0);
        }
        Calls.due("no such class", x.told(0, 21, 0), -1);
        Calls.due("no such class", x.told(0, -1, 0), -1);
        Calls.due("no such what", x.told(0, 0, 7), -1);
        Calls.due("no such what", x.told(0, 0, -1), -1);
        Calls.due("no field", x.member(0, 0, 0, 5), -1);
        Calls.due("no second method", x.member(0, 0, 1, 0), -1);
        Calls.due("link of none", x.link(0, 21), -1);
        Calls.due("link in none", x.link(1, 0), -1);
    }

    private static void own() {
        Calls c = new Calls();
        ClassWorks x = c.x;
        x.world(0);
        c.define(0, "abstract class Early : Late, I, J", "field private final static a num = 3", "field b row", "field c Late",
            "method private static final go(num, row, I) num", "room 4 5", "num 1", "ndone",
            "method abstract f()none", "end", "face class I : Thing", "end");
        int[] told = {-2, 2, 3, 2, 2, 0, 0};
        for (int what = 0; what < 7; what++) {
            Calls.due("told " + what, x.told(0, 21, what), told[what]);
        }
        Calls.due("face", x.told(0, 22, 4), 4);
        Calls.due("a face's parent", x.told(0, 22, 0), 0);
        int[] go = {7, 3, 4, 5, 2};
        int[] f = {8, 0, 0, 0, 0};
        for (int what = 0; what < 5; what++) {
            Calls.due("go " + what, x.member(0, 21, 0, what), go[what]);
            Calls.due("f " + what, x.member(0, 21, 1, what), f[what]);
        }
        int[] flags = {7, 0, 0};
        for (int k = 0; k < 3; k++) {
            Calls.due("flags " + k, x.member(0, 21, k, 5), flags[k]);
            Calls.due("type " + k, x.member(0, 21, k, 6), k);
        }
        Calls.due("no third method", x.member(0, 21, 2, 0), -1);
        Calls.due("no fourth field", x.member(0, 21, 3, 5), -1);
        Calls.due("member -1", x.member(0, 21, -1, 0), -1);
        Calls.due("member what 7", x.member(0, 21, 0, 7), -1);
        Calls.due("name of a field", x.name(0, 21, 0, 1, 0), 'b');
        Calls.due("name of a method", x.name(0, 21, 1, 0, 1), 'o');
        Calls.due("another kind", x.name(0, 21, 2, 0, 0), -1);
        Calls.due("another kind of the class", x.name(0, 21, -1, -1, 0), -1);
        Calls.due("k below", x.name(0, 21, 0, -2, 0), -1);
        c.define(0, "class Late : Thing", "end");
        Calls.due("the parent is there now", x.told(0, 21, 0), 23);
    }

    private static void linking() {
        link(2011, "class A : Nowhere|end");
        link(2115, "class A : B|end|face class B : Thing|end");
        link(2115, "class A : B|end|final class B : Thing|end");
        link(2211, "class A : Thing, Nowhere|end");
        link(2211, "class A : Thing, Nowhere, B|end|class B : Thing|end");
        link(2315, "class A : Thing, B, Nowhere|end|class B : Thing|end");
        link(2416, "class A : B|end|class B : A|end");
        link(2416, "face class A : Thing, B|end|face class B : Thing, C|end|face class C : Thing, A|end");
        link(2416, "class A : B, Nowhere|end|class B : C|end|final class C : A|end");
        link(2416, "class A : B|end|class B : C|end|class C : B|end");
        link(2011, "class A : B|end|class B : Nowhere|end");
        link(2011, "class A : B, Q|end|face class Q : Thing, Nowhere|end|class B : Nowhere|end");
        link(2211, "class A : B, Q|end|face class Q : Thing, Nowhere|end|class B : Thing|end");
        link(2515, "class A : B|method f()none|room 1 1|done|end|class B : C|end|class C : Thing|method final f()none|room 1 1|done|end");
        link(0, "class A : B|method f()num|room 1 1|num 1|ndone|end|class B : Thing|method final f()none|room 1 1|done|end");
        link(0, "class A : B|method static f()none|room 1 1|done|end|class B : Thing|method final f()none|room 1 1|done|end");
        link(0, "class A : B|method f()none|room 1 1|done|end|class B : Thing|method final private f()none|room 1 1|done|end");
        link(2515, "class A : B|method f()none|room 0 1|pop|end|class B : Thing|method final f()none|room 1 1|done|end");
    }

    private static void link(int due, String told) {
        Calls c = new Calls();
        c.x.world(0);
        c.define(0, told.replace('|', '\n'));
        Calls.due(told, c.x.link(0, 21), due);
        Calls.due("again " + told, c.x.link(0, 21), due);
        Calls.due("told " + told, c.x.told(0, 21, 6), due == 0 ? 1 : due);
    }

    private static void linkedOnce() {
        Calls c = new Calls();
        c.x.world(0);
        c.define(0, "class A : B", "end", "class C : A", "end");
        Calls.due("no parent", c.x.link(0, 21), 2011);
        c.define(0, "class B : Thing", "end");
        Calls.due("it failed", c.x.link(0, 21), 2011);
        Calls.due("the class below fails so, too", c.x.link(0, 22), 2011);
        Calls.due("B was not asked", c.x.told(0, 23, 6), 0);
        Calls.due("B", c.x.link(0, 23), 0);
        Calls.due("checked", c.x.checked(0, 0), -2);
        c.define(0, "class D : Thing", "method abstract0()none", "room 0 1", "done",
            "method static f()none", "room 1 1", "num 1", "pop", "pop", "done", "end", "class E : D", "end");
        Calls.due("E", c.x.link(0, 25), 3117);
        Calls.due("its parent", c.x.told(0, 24, 6), 3117);
        int[] where = {24, 1, 2};
        for (int what = 0; what < 3; what++) {
            Calls.due("checked " + what, c.x.checked(0, what), where[what]);
        }
        Calls.due("checked 3", c.x.checked(0, 3), -1);
        Calls.due("checked -1", c.x.checked(0, -1), -1);
        Calls.due("checked nowhere", c.x.checked(1, 0), -1);
    }

    /** The class X below Q has one method, static f, of these lines; the rule, and the instruction. */
    private static void check(int rule, int at, String sign, String lines) {
        Calls c = new Calls();
        c.x.world(0);
        String told = LIB + "class X : Q, I|field x num|field static s Q|method " + sign + "|" + lines + "|end";
        Calls.due(told, c.define(0, told.replace('|', '\n')), 4);
        Calls.due(told, c.x.link(0, 24), rule == 0 ? 0 : 100 * rule + 17);
        Calls.due("where " + told, c.x.checked(0, 2), rule == 0 ? -2 : at);
        Calls.due("kinds " + told, c.x.kinds(0, 24, 0, false), rule == 0 ? 0 : 1000 * rule + at);
    }

    private static void checkingRules() {
        check(30, 1, "static f()none", "room 1 0|num 1|num 1|done");
        check(30, 1, "static f()none", "room 1 0|num 1|dup|done");
        check(0, 0, "static f()none", "room 1 0|num 1|done");
        check(31, 0, "static f()none", "room 9 0|pop|done");
        check(31, 1, "static f()none", "room 9 0|num 1|add|done");
        check(31, 1, "static f()none", "room 9 0|num 1|dupx|done");
        check(32, 2, "static f()none", "room 9 0|null|num 1|add|done");
        check(32, 1, "static f()none", "room 9 0|num 1|isnull L|frame;|L: done");
        check(32, 2, "static f()none", "room 9 0|num 1|null|get|done");
        check(32, 1, "static f()none", "room 9 1|num 1|rstore 0|done");
        check(33, 0, "static f()none", "room 9 1|nload 1|done");
        check(33, 0, "static f()none", "room 9 1|nstore 1|done");
        check(34, 0, "static f()none", "room 9 1|nload 0|done");
        check(34, 0, "static f()none", "room 9 1|rload 0|done");
        check(34, 0, "static f(row)none", "room 9 1|inc 0 1|done");
        check(34, 0, "static f(num)none", "room 9 1|rload 0|done");
        check(35, 1, "static f()none", "room 9 1|num 1|pop");
        check(35, 1, "static f(num)none", "room 9 1|frame num;|L: nload 0|ifg L");
        check(36, 1, "static f()none", "room 9 1|done|done");
        check(36, 1, "static f(num)none", "room 9 1|nload 0|ifg L|L: done");
        check(36, 1, "static f()none", "room 9 1|num 1|pick 0 L, M|L: M: done");
        check(39, 1, "static f()none", "room 9 1|new P|isnull L|frame;|L: done");
        check(39, 1, "static f()none", "room 9 1|new P|sput X.s Q|done");
        check(0, 0, "static f()none", "room 9 1|new P|rstore 0|rload 0|dup|swap|pop|pop|done");
        check(41, 1, "static f()none", "room 9 1|num 1|ndone");
        check(41, 1, "static f()num", "room 9 1|null|rdone");
        check(41, 0, "static f()row", "room 9 1|done");
        check(32, 1, "static f()row", "room 9 1|num 1|rdone");
        check(0, 0, "static f()row", "room 9 1|null|rdone");
        check(42, 1, "static f()none", "room 9 1|null|call Q.<make>()none|done");
        check(42, 0, "static f()none", "room 9 1|static Q.<make>()none|done");
        check(42, 1, "static f()none", "room 9 1|new P|special Q.<make>()none|done");
        check(42, 1, "static f()none", "room 9 1|num 1|special Q.<make>()none|done");
        check(42, 1, "static f()none", "room 9 1|null|special P.m()num|done");
        check(0, 0, "f()none", "room 9 1|rload 0|special Q.m()num|rload 0|special I.m()num|rload 0|special X.m()num|done");
        check(32, 1, "static f(P)none", "room 9 1|rload 0|special Q.m()num|done");
        check(43, 1, "static f()none", "room 9 1|sget X.s Q|fget Nowhere.x num|done");
        check(0, 0, "static f()none", "room 9 1|null|fget Nowhere.x num|done");
        check(43, 1, "static f(Nowhere)none", "room 9 1|rload 0|sput X.s Q|done");
        check(0, 0, "static f(Nowhere)none", "room 9 1|rload 0|sput Y.s I|rload 0|sput Y.s Thing|done");
        check(32, 1, "static f(row)none", "room 9 1|rload 0|sput X.s Q|done");
        check(0, 0, "static f(row)none", "room 9 1|rload 0|sput X.s Thing|done");
        check(32, 1, "static f(P)none", "room 9 1|rload 0|sput X.s Q|done");
        check(0, 0, "static f(P)none", "room 9 1|rload 0|sput X.s I|done");
        check(32, 1, "static f(P)none", "room 9 1|rload 0|throw");
        check(0, 0, "static f(StartFault)none", "room 9 1|rload 0|throw");
        // 33 before 31, 31 before 32, the uppermost first, 32 before 34, 34 before 39 is asked of others
        check(33, 0, "static f()none", "room 9 1|rstore 3|done");
        check(43, 2, "static f(Nowhere)none", "room 9 1|num 1|rload 0|fput P.x P|done");
        check(32, 2, "static f(Nowhere)none", "room 9 1|rload 0|num 1|fput P.x P|done");
        check(30, 0, "static f()none", "room 0 1|new P|done");
        check(41, 1, "static f()row", "room 9 1|num 1|ndone");
    }

    private static void frames() {
        check(37, 1, "static f()none", "room 9 1|num 1|frame ;|done");
        check(37, 0, "static f(num)none", "room 9 1|frame row;|done");
        check(37, 1, "static f(row)none", "room 9 2|frame Thing, unset;|nop|frame row;|done");
        check(0, 0, "static f(row)none", "room 9 2|frame Thing;|nop|frame unset;|done");
        check(38, 0, "static f(num)none", "room 9 1|frame num, unset;|done");
        check(38, 0, "static f(num)none", "room 0 1|frame num;num|done");
        check(38, 0, "static f(num)none", "room 2 1|frame num; unset|done");
        check(38, 0, "static f(num)none", "room 2 1|frame unmade;|done");
        check(38, 1, "static f(num)none", "room 2 1|nload 0|ifg L|frame unset;|done|frame ;unset|L: done");
        check(38, 0, "static f(num)none", "room 2 1|jump L|frame ;unset|L: done");
        check(38, 1, "static f(num)none", "room 2 1|done|frame ;unset|done");
        check(37, 1, "static f(num)none", "room 2 1|nload 0|pick 0 L, M|frame row;|L: done|frame ;row|M: done");
        check(36, 1, "static f(num)none", "room 2 1|nload 0|pick 0 L, M|frame row;|L: done|frame ;|nop|M: done");
        check(0, 0, "static f(num)none", "room 2 1|nload 0|pick 0 L, M|frame num;|L: done|frame ;|M: done");
        check(43, 0, "static f(Nowhere)none", "room 2 1|frame P;|done");
        check(43, 0, "static f(P)none", "room 2 1|frame Nowhere;|done");
        check(0, 0, "static f(Nowhere)none", "room 2 1|frame Nowhere;|done");
    }

    private static void handlers() {
        check(36, 0, "static f()none", "room 2 1|a: nop|b: done|handler a b b any");
        check(37, 0, "static f()none", "room 2 1|a: nop|done|frame ;|b: done|handler a b b any");
        check(0, 0, "static f()none", "room 2 1|a: nop|done|frame ;Fault|b: done|handler a b b any");
        check(37, 0, "static f()none", "room 2 1|a: nop|done|frame ;NullFault|b: done|handler a b b any");
        check(0, 0, "static f()none", "room 2 1|a: nop|done|frame ;Thing|b: done|handler a b b NullFault");
        check(43, 0, "static f()none", "room 2 1|a: nop|done|frame ;Fault|b: done|handler a b b Nowhere");
        check(38, 0, "static f()none", "room 0 1|a: nop|done|frame ;Fault|b: done|handler a b b any");
        // how many are on its stack comes before its locals
        check(37, 0, "static f(P)none", "room 2 1|a: nop|done|frame Nowhere;|b: done|handler a b b any");
        check(43, 0, "static f(P)none", "room 2 1|a: nop|done|frame Nowhere;row|b: done|handler a b b any");
        // before the instruction's own rules, and once more behind a store
        check(36, 0, "static f()none", "room 0 1|a: pop|b: done|handler a b b any");
        check(37, 1, "static f(num)none", "room 2 1|null|a: rstore 0|b: done|frame num;Fault|c: done|handler a b c any");
        check(0, 0, "static f(num)none", "room 2 1|null|a: nop|b: rstore 0|done|frame num;Fault|c: done|handler a b c any");
        check(36, 0, "static f(num)none", "room 2 1|a: num 1|nstore 0|b: done|handler a b b any");
    }

    private static void makes() {
        String begin = "room 3 1|rload 0|";
        check(40, 0, "<make>()none", "room 3 1|done");
        check(40, 1, "<make>()none", begin + "done");
        check(0, 0, "<make>()none", begin + "special Q.<make>()none|done");
        check(0, 0, "<make>()none", begin + "special X.<make>()none|done");
        check(42, 1, "<make>()none", begin + "special P.<make>()none|done");
        check(39, 1, "<make>()none", begin + "fget X.x num|done");
        check(0, 0, "<make>()none", begin + "dup|special Q.<make>()none|fget X.x num|done");
        check(0, 0, "<make>()none", "room 3 1|null|rstore 0|done");
        check(0, 0, "<make>()none", begin + "pop|frame unmade;|nop|rload 0|special Q.<make>()none|frame X;|done");
        check(37, 2, "<make>()none", begin + "special Q.<make>()none|frame unmade;|done");
        check(41, 3, "<make>()none", begin + "special Q.<make>()none|num 1|ndone");
        check(36, 1, "<make>()none", "room 3 1|rload 0|a: special Q.<make>()none|b: done|handler a b b any");
        check(37, 1, "<make>()none", "room 3 1|rload 0|a: special Q.<make>()none|b: done|frame unmade;Fault|c: null|rstore 0|done|handler a b c any");
    }

    /** Rules 21 and 25 can be broken. */
    private static void brokenRules() {
        Calls c = new Calls();
        c.x.world(8);
        c.define(0, "class A : B", "end", "final class B : I", "end", "face class I : Thing", "end",
            "class C : D", "method f()none", "room 0 1", "done", "end",
            "class D : Thing", "method final f()none", "room 0 1", "done", "end");
        Calls.due("21 is not asked", c.x.link(0, 21), 0);
        Calls.due("25 is", c.x.link(0, 24), 2515);
        c.x.world(16);
        c.define(1, "class A : B", "method f()none", "room 0 1", "done", "end",
            "class B : Thing", "method final f()none", "room 0 1", "done", "end");
        Calls.due("25 is not asked", c.x.link(1, 21), 0);
    }
}
