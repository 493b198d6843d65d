/** Sections 2, 3, 5 and 6 and promises 4 and 5: what is below what, linking, starts, and finding, each to its edge. */
public final class LinkBoundsTest {
    private static final String MAKE = "|method <make>()none|room 1 1|rload 0|special Thing.<make>()none|done";

    public static void main(String[] args) {
        builtInOnes();
        builtInMake();
        breaksAndRules();
        ringsFirst();
        parents();
        faces();
        parentsThenFaces();
        rule25();
        checkedInOrder();
        linkedOnce();
        latestChecked();
        facesParents();
        whatIsStarted();
        startsOfOwn();
        startStates();
        startsThrow();
        startsOfFaces();
        startsAndSteps();
        startsWait();
        startsByThreads();
        haltsInStarts();
        fieldsFound();
        fieldRules();
        finalFields();
        methodsFound();
        methodsInFaces();
        methodRules();
        makesFound();
        whichIsCalled();
        abstractOnes();
        facesForObjects();
        classesFound();
        askedAnew();
        thirtiethClass();
        startsWithFewFrames();
        foundToWait();
        Calls.end();
    }

    private static Calls world(int breaks, String told) {
        Calls c = new Calls();
        c.x.world(breaks);
        Calls.due(told, Math.min(c.define(0, told.replace('|', '\n')), 1), 1);
        return c;
    }

    private static void run(Calls c, int thread, String call) {
        Calls.due(call, c.call(0, thread, call), 0);
        c.x.step(0, 4000);
    }

    /** A run of thread 0 ends with this number. */
    private static void number(Calls c, String call, int due) {
        run(c, 0, call);
        Calls.due("class of " + call, c.x.run(0, 0, 4), -2);
        Calls.due(call, c.x.run(0, 0, 3), due);
        Calls.due("a number of " + call, c.x.run(0, 0, 2), 1);
    }

    /** A run of thread 0 FAILED with this rule and class. */
    private static void fails(Calls c, String call, int rule, int cls) {
        run(c, 0, call);
        Calls.due("how " + call, c.x.run(0, 0, 0), 2);
        Calls.due("rule of " + call, c.x.run(0, 0, 5), rule);
        Calls.due("class of " + call, c.x.run(0, 0, 4), cls);
    }

    /** BUILT-IN ones: their parents; "They have no fields .. are neither final nor abstract, linked and started"; what is below what. */
    private static void builtInOnes() {
        ClassWorks x = new ClassWorks();
        x.world(0);
        Calls.due("no class of its own", x.classes(0), 0);
        int[] parents = {-2, 0, 1, 1, 1, 1, 1, 1, 1, 1, 1, 10, 10, 10, 10, 10, 10, 10, 10, 10, 10};
        for (int c = 0; c < 21; c++) {
            Calls.due("parent of " + c, x.told(0, c, 0), parents[c]);
            Calls.due("fields of " + c, x.told(0, c, 2), 0);
            Calls.due("methods of " + c, x.told(0, c, 3), 1);
            Calls.due("FLAGS of " + c, x.told(0, c, 4), 0);
            Calls.due("STARTED " + c, x.told(0, c, 5), 2);
            Calls.due("linked " + c, x.told(0, c, 6), 1);
            Calls.due("link " + c, x.link(0, c), 0);
            Calls.due("FLAGS of <make> of " + c, x.member(0, c, 0, 0), 0);
            Calls.due("arguments of <make> of " + c, x.member(0, c, 0, 1), 0);
        }
        Calls.due("none behind", x.told(0, 21, 0), -1);
        Calls.due("none was begun to be started", x.run(0, 0, 12), 0);
        // each built-in class is below itself and what is above it, and no other: asked by is
        StringBuilder told = new StringBuilder("class A : Thing");
        String[] names = {"Thing", "Fault", "NullFault", "RoomFault", "LinkFault", "ClassFault", "StartFault"};
        for (int i = 0; i < names.length; i++) {
            told.append("|method static f").append(i).append("()num|room 3 1|new ").append(names[i]).append("|dup|special ").append(names[i]).append(".<make>()none|rstore 0");
            for (int j = 0; j < names.length; j++) {
                told.append("|rload 0|is ").append(names[j]).append(j == 0 ? "" : "|add");
                told.append(j == names.length - 1 ? "|ndone" : "|num 2|mul");
            }
        }
        Calls c = world(0, told + "|end");
        int[] due = {0b1000000, 0b1100000, 0b1110000, 0b1101000, 0b1100100, 0b1100110, 0b1100101};
        for (int i = 0; i < names.length; i++) {
            number(c, "A.f" + i + "()num", due[i]);
        }
    }

    /** "<make> ( ) none, which does nothing (no step is done in it)"; they can be parents. */
    private static void builtInMake() {
        Calls c = world(0, "class A : Thing|method static f()none|room 2 0|new StartFault|dup|special StartFault.<make>()none|pop|done|end|class E : LinkFault|end|class T : Thing|end");
        run(c, 0, "A.f()none");
        Calls.due("five steps", c.x.run(0, 0, 1), 5);
        Calls.due("one frame was begun, one ended, one class started", c.x.trace(0, 4, 0), -2);
        Calls.due("A starts", c.x.trace(0, 0, 0), 4);
        Calls.due("A started", c.x.trace(0, 1, 0), 5);
        Calls.due("f begins", c.x.trace(0, 2, 0), 1);
        Calls.due("f ends", c.x.trace(0, 3, 0), 2);
        Calls.due("special was done", c.x.done(0, 51), 1);
        Calls.due("link E", c.x.link(0, 22), 0);
        Calls.due("link T", c.x.link(0, 23), 0);
    }

    /** "rules 4, 5, 6, 21, 25, 53, 54, 57 told as bits 0 .. 7": each single one is found by its rule's trial alone. */
    private static void breaksAndRules() {
        String use = "|class A : Thing|method static f()num|room 2 0|%|num 1|ndone|end|run A.f()num";
        String[] trials = {"final abstract class B : Thing|end" + use.replace("|%", ""), "face class B : Thing|field x num|end" + use.replace("|%", ""),
            "class B : Thing|method abstract m()none|end" + use.replace("|%", ""), "final class B : Thing|end|class C : B|end" + use.replace("%", "new C|pop"),
            "class B : Thing|method final m()none|room 0 1|done|end|class C : B|method m()none|room 0 1|done|end" + use.replace("%", "new C|pop"),
            "class B : Thing|field private static x num|end" + use.replace("%", "sget B.x num|pop"), "class B : Thing|field final static x num|end" + use.replace("%", "num 4|sput B.x num"),
            "abstract class B : Thing|end" + use.replace("%", "new B|pop")};
        int[] rules = {4, 5, 6, 21, 25, 53, 54, 57};
        Calls c = new Calls();
        for (int t = 0; t < 8; t++) {
            Calls.due("trial " + t, c.trial(trials[t].replace('|', '\n')), t);
            Calls.due("meets", c.x.meets(t), rules[t]);
            for (int b = 0; b < 8; b++) {
                Calls.due("finds " + b, c.x.finds(t, 1 << b), b == t ? 1 : 0);
            }
            Calls.due("with all others", c.x.outcome(t, 255 - (1 << t), 1), c.x.outcome(t, 0, 1));
            Calls.due("without it", c.x.outcome(t, 1 << t, 0), 2);
        }
    }

    private static void link(int due, String told) {
        Calls c = world(0, told);
        Calls.due(told, c.x.link(0, 21), due);
        Calls.due("again " + told, c.x.link(0, 21), due);
        Calls.due("told " + told, c.x.told(0, 21, 6), due == 0 ? 1 : due);
    }

    /** 24 "is asked first of all": no way up comes back to C. */
    private static void ringsFirst() {
        link(2416, "class A : B|end|class B : A|end");
        link(2416, "final class A : B, Gone|end|final class B : A, Gone|end");
        link(2416, "class A : B, B2|end|class B : A|end|class B2 : Thing|end");
        link(2416, "class A : B|end|class B : C|end|class C : D|end|class D : A|end");
        link(2416, "class A : Gone, I|end|face class I : Thing, A|end");
        link(2416, "class A : Thing, B, I|end|class B : Thing|end|face class I : Thing, J|end|face class J : Thing, K|end|face class K : Thing, A|end");
        link(2416, "class A : B|end|class B : Thing, I|end|face class I : Thing, A|end");
        link(2416, "face class A : Thing, I|end|face class I : Thing, J|end|face class J : Thing, A|end");
        // a way that ends at a class that is not there does not come back; it may later
        link(2011, "class A : Gone, I|end|face class I : Thing, Gone|end");
        // a ring above it, but not through it: it is the parent's failure
        Calls c = world(0, "class A : B|end|class B : C|end|class C : B|end");
        Calls.due("its own failure", c.x.link(0, 21), 2416);
        Calls.due("B's", c.x.told(0, 22, 6), 2416);
        Calls.due("C was not asked", c.x.told(0, 23, 6), 0);
        c = world(0, "class A : B|end|class B : A|end");
        Calls.due("A", c.x.link(0, 21), 2416);
        Calls.due("B is not linked by that", c.x.told(0, 22, 6), 0);
        Calls.due("B", c.x.link(0, 22), 2416);
        c = world(0, "class A : B|end");
        c.goodIn(0, 1, "class B : A|end");
        Calls.due("by a class that came later", c.x.link(0, 21), 2416);
        // no ring: twice the same above
        link(0, "class A : B, I, J|end|class B : Thing, I, J|end|face class I : Thing, K|end|face class J : Thing, K|end|face class K : Thing|end");
    }

    /** 20 its parent is there, 21 is no face and not final, before 22. */
    private static void parents() {
        link(0, "class A : B|end|class B : Thing|end");
        link(0, "class A : B|end|abstract class B : Thing|end");
        link(0, "final class A : B|end|class B : Thing|end");
        link(2011, "class A : B|end");
        link(2115, "class A : B|end|final class B : Thing|end");
        link(2115, "class A : B|end|face class B : Thing|end");
        link(2011, "class A : B, C|end");
        link(2011, "class A : B, C|end|class C : Thing|end");
        link(2115, "class A : B, C|end|final class B : Thing|end");
        link(2211, "class A : B, C|end|class B : Thing|end");
        // asked before the parent is linked
        link(2115, "class A : B|end|final class B : Gone|end");
        link(2211, "class A : B, C|end|class B : Gone|end");
        link(2315, "class A : B, C|end|class B : Gone|end|class C : Gone|end");
        link(2011, "class A : B, C|end|class B : Gone|end|face class C : Thing|end");
        Calls c = world(8, "class A : B|end|face class B : Thing|end|class C : D|end|final class D : Thing|end|class E : Gone|end");
        Calls.due("21 is not asked of a face", c.x.link(0, 21), 0);
        Calls.due("nor of a final one", c.x.link(0, 23), 0);
        Calls.due("20 is", c.x.link(0, 25), 2011);
    }

    /** "22 each face is there, 23 is a face, in order". */
    private static void faces() {
        String ends = "|class C : Thing|end|face class I : Thing|end|face class J : Thing|end|abstract class B : Thing|end";
        link(0, "class A : Thing, I, J|end" + ends);
        link(2211, "class A : Thing, Gone|end" + ends);
        link(2211, "class A : Thing, I, J, Gone|end" + ends);
        link(2315, "class A : Thing, C|end" + ends);
        link(2315, "class A : Thing, B|end" + ends);
        link(2315, "class A : Thing, I, J, C|end" + ends);
        link(2315, "class A : Thing, I, C, Gone|end" + ends);
        link(2211, "class A : Thing, I, Gone, C|end" + ends);
        link(2211, "class A : Thing, Gone, C|end" + ends);
        link(2315, "class A : Thing, C, Gone|end" + ends);
        link(2315, "face class A : Thing, C|end" + ends);
        link(2315, "class A : Thing, Fault|end" + ends);
        link(2211, "class A : Thing, I, J, K, Gone|end|face class K : Thing|end" + ends);
    }

    /** "The parent, then the faces are linked (what fails there is its own failure)"; then 25; then it is CHECKED. */
    private static void parentsThenFaces() {
        String i = "|face class I : Thing, Gone|end";
        String j = "|face class J : Thing, C|end|class C : Thing|end";
        String p = "|class P : Fault, C|end";
        Calls c = world(0, "class A : P, I, J|end" + i + j + p);
        Calls.due("the parent first", c.x.link(0, 21), 2315);
        Calls.due("P", c.x.told(0, 25, 6), 2315);
        Calls.due("I was not linked", c.x.told(0, 22, 6), 0);
        c = world(0, "class A : Thing, I, J|end" + i + j);
        Calls.due("then the first face", c.x.link(0, 21), 2211);
        Calls.due("J was not linked", c.x.told(0, 23, 6), 0);
        c = world(0, "class A : Thing, J, I|end" + i + j);
        Calls.due("in order", c.x.link(0, 21), 2315);
        Calls.due("I was not linked", c.x.told(0, 22, 6), 0);
        String wrong = "method static f()none|room 0 0|pop|done|";
        c = world(0, "class A : P, J|" + wrong + "method m()none|room 0 1|done|end|class P : Thing|method final m()none|room 0 1|done|end|face class J : Thing, Gone|end|class K : P|" + wrong
            + "method m()none|room 0 1|done|end|class L : P|" + wrong + "end");
        Calls.due("the face before 25", c.x.link(0, 21), 2211);
        Calls.due("25 before what is CHECKED", c.x.link(0, 24), 2515);
        Calls.due("that last", c.x.link(0, 25), 3117);
        c = world(0, "class A : P, I|end|class P : Thing|" + wrong + "end|face class I : Thing, Gone|end");
        Calls.due("the parent's CheckFault before a face's", c.x.link(0, 21), 3117);
        c = world(0, "class A : P, I|end|class P : Thing|end|face class I : Thing|end");
        Calls.due("all are linked", c.x.link(0, 21), 0);
        Calls.due("the parent", c.x.told(0, 22, 6), 1);
        Calls.due("the face", c.x.told(0, 23, 6), 1);
    }

    /** 25: its method's NAME, types and result, FLAGS of both; above by parents alone. */
    private static void rule25() {
        String[] own = {"method m(num)none|room 0 3|done", "method final m(num)none|room 0 3|done", "method private m(num)none|room 0 3|done", "method static m(num)none|room 0 3|done",
            "method m(row)none|room 0 3|done", "method m(num)num|room 1 3|num 1|ndone", "method m()none|room 0 3|done", "method n(num)none|room 0 3|done", "method m(num,num)none|room 0 3|done"};
        int[] asked = {1, 1, 0, 0, 0, 0, 0, 0, 0};
        String[] above = {"final", "final static", "final private", "", "static", "private", "final private static"};
        for (int i = 0; i < own.length; i++) {
            for (int k = 0; k < above.length; k++) {
                String p = "class P : Thing|method " + above[k] + " m(num)none|room 0 3|done|end";
                boolean breaks = k == 0 && asked[i] == 1;
                link(breaks ? 2515 : 0, "class A : P|" + own[i] + "|end|" + p);
                link(breaks ? 2515 : 0, "class A : B|" + own[i] + "|end|class B : C|end|class C : P|end|" + p);
            }
        }
        link(2515, "class A : P|method a()none|room 0 1|done|method m()none|room 0 1|done|end|class P : Thing|method b()none|room 0 1|done|method final m()none|room 0 1|done|end");
        // the one between may be another: it is asked of all above
        link(2515, "class A : B|method m()none|room 0 1|done|end|class B : P|method private m()none|room 0 1|done|end|class P : Thing|method final m()none|room 0 1|done|end");
        // wherever the class stands, and whichever of its methods it is
        String front = "class P : Thing|method final m()none|room 0 1|done|method static s()none|room 0 0|done|end|class Q : Thing|method private q()none|room 0 1|done|method static m()none|room 0 0|done|end|";
        String[] last = {"method m()none|room 0 1|done", "method private m()none|room 0 1|done", "method static m()none|room 0 0|done", "method s()none|room 0 1|done"};
        for (int k = 0; k < 4; k++) {
            Calls c = world(0, front + "class A : P|method n()none|room 0 1|done|method private o()none|room 0 1|done|" + last[k] + "|end");
            Calls.due(last[k], c.x.link(0, 23), k == 0 ? 2515 : 0);
            c = world(0, front + "class A : P|method static n()none|room 0 0|done|" + last[k] + "|method o()none|room 0 1|done|end");
            Calls.due(last[k], c.x.link(0, 23), k == 0 ? 2515 : 0);
        }
        // not of faces, and not of its own
        Calls c = world(2, "class A : Thing, I|method m()none|room 0 1|done|end|face class I : Thing|method final m()none|room 0 1|done|end");
        Calls.due("a final method of a face", c.x.link(0, 21), 0);
        link(0, "class A : Thing|method final m()none|room 0 1|done|end");
        link(0, "class A : P|method <make>()none|room 1 1|rload 0|special P.<make>()none|done|end|class P : Thing" + MAKE + "|end");
        // a face's parent counts as Thing
        c = world(1, "face class A : P|method m()none|room 0 1|done|end|class P : Thing|method final m()none|room 0 1|done|end");
        Calls.due("a face below it", c.x.link(0, 21), 0);
        c = world(16, "class A : P|method m()none|room 0 1|done|end|class P : Thing|method final m()none|room 0 1|done|end");
        Calls.due("with its break", c.x.link(0, 21), 0);
    }

    /** "Then it is CHECKED: its methods in order (CheckFault)". */
    private static void checkedInOrder() {
        String good = "method static a()none|room 1 1|num 1|pop|done";
        String bad31 = "method static b()none|room 1 1|nop|pop|done";
        String bad33 = "method static c()none|room 1 1|nop|nop|nload 5|done";
        String bad42 = "method static d()none|room 1 1|static A.<make>()none|done";
        String[] orders = {bad31 + "|" + bad33, bad33 + "|" + bad31, good + "|" + bad31, good + "|" + bad42 + "|" + bad33, "method abstract e()none|" + good + "|" + bad33};
        int[][] due = {{31, 0, 1}, {33, 0, 2}, {31, 1, 1}, {42, 1, 0}, {33, 2, 2}};
        for (int i = 0; i < orders.length; i++) {
            Calls c = world(0, "class Z : Thing|end|abstract class A : Thing|" + orders[i] + "|end");
            Calls.due("before", c.x.checked(0, 0), -2);
            Calls.due(orders[i], c.x.link(0, 22), 100 * due[i][0] + 17);
            Calls.due("class", c.x.checked(0, 0), 22);
            Calls.due("method", c.x.checked(0, 1), due[i][1]);
            Calls.due("instruction", c.x.checked(0, 2), due[i][2]);
        }
        link(0, "class A : Thing|" + good + "|end");
        link(0, "class A : Thing|end");
        link(0, "abstract class A : Thing|method abstract e()none|end");
    }

    /** "once; when it fails it fails so each time that it is wanted, the same class of fault and rule again". */
    private static void linkedOnce() {
        Calls c = world(0, "class A : B|end|class D : Thing, I|end|class C : A|end");
        Calls.due("A", c.x.link(0, 21), 2011);
        Calls.due("D", c.x.link(0, 22), 2211);
        c.goodIn(0, 2, "class B : Thing|end|face class I : Thing|end");
        Calls.due("A failed once and for all", c.x.link(0, 21), 2011);
        Calls.due("D", c.x.link(0, 22), 2211);
        Calls.due("what is below A", c.x.link(0, 23), 2011);
        Calls.due("told", c.x.told(0, 23, 6), 2011);
        Calls.due("B is not linked", c.x.told(0, 24, 6), 0);
        // what is linked stays so: a ring that comes later is not asked of it
        c = world(0, "class A : Thing|method f(Late)none|room 1 2|rload 1|fget Late.x num|pop|done|end");
        Calls.due("linked", c.x.link(0, 21), 0);
        c.goodIn(0, 1, "class Late : A|end");
        Calls.due("linked still", c.x.link(0, 21), 0);
    }

    /** checked(): "Where the latest linking that failed by CHECKING did so". */
    private static void latestChecked() {
        Calls c = world(0, "class A : Thing|method static f()none|room 1 1|nop|pop|done|end|class B : Thing|method static f()none|room 1 1|done|method static g()none|room 1 1|pop|done|end|class C : A|end"
            + "|class D : Gone|end|class E : Thing|end");
        c.x.link(0, 21);
        c.x.link(0, 22);
        int[] due = {22, 1, 0};
        int[] again = {21, 22, 23, 24, 25};
        for (int k : again) {
            c.x.link(0, k);
            c.x.kinds(0, 21, 0, false);
            for (int what = 0; what < 3; what++) {
                Calls.due("checked " + what + " behind " + k, c.x.checked(0, what), due[what]);
            }
        }
        c.x.world(0);
        Calls.due("of another world", c.x.checked(1, 0), -2);
    }

    /** "A face's PARENT counts as Thing everywhere, but in rules 4, 11, 20 to 24 (it is linked, too), told() and differ(), and as it is WRITTEN." */
    private static void facesParents() {
        String told = "face class I : P|method abstract m()num|end|class P : Thing|field static s num = 6|field x num|method m()num|room 1 1|num 9|ndone|method static q()num|room 1 0|num 2|ndone"
            + "|method static <start>()none|room 0 0|done|end|class A : Thing, I" + MAKE
            + "|method static f()num|room 2 0|new A|dup|special A.<make>()none|facecall I.m()num|ndone|method static g()num|room 2 0|sget I.s num|ndone|method static h()num|room 2 0|static I.q()num|ndone"
            + "|method static k()num|room 2 0|new A|dup|special A.<make>()none|is P|ndone|method static o()num|room 1 0|static I.m()num|ndone|end|face class J : P|field static final y num = 3|end"
            + "|class B : Thing|method static f(I)none|room 1 1|rload 0|sput B.s P|done|end|class C : Thing|method static f()num|room 1 0|sget J.y num|ndone|end";
        Calls c = world(1, told);
        Calls.due("told", c.x.told(0, 21, 0), 22);
        Calls.same("written", c.print(0, 21), "face class I: P\n method abstract m() num\nend\n");
        Calls.due("differ", c.x.differ(0, 21, 0, 24, 0), 0);
        Calls.due("linking I", c.x.link(0, 21), 0);
        Calls.due("links P, too", c.x.told(0, 22, 6), 1);
        fails(c, "A.f()num", 58, 18);
        fails(c, "A.g()num", 51, 12);
        fails(c, "A.h()num", 52, 13);
        fails(c, "A.o()num", 55, 15);
        number(c, "A.k()num", 0);
        Calls.due("it does not fit", c.x.link(0, 25), 3217);
        number(c, "C.f()num", 3);
        Calls.due("its parent is not started", c.x.told(0, 22, 5), 0);
        // 20, 21, 24 are asked of it as it was told
        c = world(1, "face class I : Gone|end|face class J : F|end|final class F : Thing|end|face class K : L|end|face class L : K|end|face class M : J|end|face class N : W|end|class W : Thing, Gone|end");
        Calls.due("20", c.x.link(0, 21), 2011);
        Calls.due("21 of a final one", c.x.link(0, 22), 2115);
        Calls.due("24", c.x.link(0, 24), 2416);
        Calls.due("21 of a face", c.x.link(0, 26), 2115);
        Calls.due("its failure", c.x.link(0, 27), 2211);
        Calls d = world(1, "face class I : P|end|face class J : Q|end|class P : Thing|end|class Q : Thing|end");
        Calls.due("differ by PARENT", d.x.differ(0, 21, 0, 22, 0), 1);
    }

    /** "Started are, behind the finding and before the act": what each operation starts. */
    private static void whatIsStarted() {
        String s = "class S : P|field static x num|field y num|field static r row" + MAKE.replace("Thing", "P") + "|method static f()none|room 0 0|done|method m()none|room 0 1|done|method static <start>()none|room 0 0|done|end"
            + "|class P : Thing, I|field static z num|method <make>()none|room 1 1|rload 0|special Thing.<make>()none|done|method static g()none|room 0 0|done|end"
            + "|face class I : Thing|field static final w num = 5|method abstract m()none|end";
        String[] lines = {"new S|pop", "sget S.x num|pop", "num 1|sput S.x num", "static S.f()none", "sget S.z num|pop", "static S.g()none", "sget S.w num|pop", "null|is S|pop", "null|cast S|pop",
            "null|call S.m()none", "null|facecall I.m()none", "null|fget S.y num|pop", "null|num 1|fput S.y num", "num 0|newrow|is S|pop", "sget S.gone num|pop", "static S.gone()none", "static S.m()none", "num 1|sput S.w num",
            "static P.g()none", "new P|pop"};
        // the classes that are started: S 1, P 2, I 4
        int[] due = {3, 3, 3, 3, 2, 2, 4, 0, 0, 0, 0, 0, 0, 0, 0, 0, 0, 0, 2, 2};
        for (int i = 0; i < lines.length; i++) {
            Calls c = world(0, s + "|class A : Thing|method static go()none|room 3 0|" + lines[i] + "|done|end");
            run(c, 0, "A.go()none");
            for (int k = 0; k < 3; k++) {
                Calls.due(lines[i] + " starts " + k, c.x.told(0, 21 + k, 5), (due[i] >> k & 1) == 1 ? 2 : 0);
            }
        }
        Calls c = world(0, s);
        run(c, 0, "S.f()none");
        Calls.due("the class in which a run's method is found", c.x.told(0, 21, 5), 2);
        Calls.due("begun", c.x.run(0, 0, 12), 2);
        Calls.due("S first", c.x.started(0, 0), 21);
        Calls.due("then P", c.x.started(0, 1), 22);
        Calls.due("no third", c.x.started(0, 2), -1);
        c = world(0, s);
        run(c, 0, "S.g()none");
        Calls.due("not the one that is named", c.x.told(0, 21, 5), 0);
        Calls.due("but where it is", c.x.told(0, 22, 5), 2);
        run(c, 0, "S.g()none");
        Calls.due("once", c.x.run(0, 0, 12), 1);
    }

    /** "STARTED, or it GOES ON: nothing" of its own thread; "its fields with = have their numbers". */
    private static void startsOfOwn() {
        Calls c = world(0, "class A : Thing|field static x num = -7|field static y num|field static r row|field static z num = 2147483647|field static w num = 0|method static <start>()none|room 2 0|sget A.x num|sput A.y num|num 1|sput A.x num|static A.f()none|new A|pop|done"
            + "|method static f()none|room 0 0|done|method static g()none|room 0 0|nop|done|end");
        for (int k = 0; k < 5; k++) {
            Calls.due("before it is started " + k, c.x.fixed(0, 21, k), 0);
        }
        c.call(0, 0, "A.g()none");
        c.x.step(0, 1);
        int[] begun = {-7, 0, 0, Integer.MAX_VALUE, 0};
        for (int k = 0; k < 5; k++) {
            Calls.due("when it is begun " + k, c.x.fixed(0, 21, k), begun[k]);
        }
        Calls.due("GOES ON", c.x.told(0, 21, 5), 1);
        c.x.step(0, 7);
        Calls.due("GOES ON", c.x.told(0, 21, 5), 1);
        c.x.step(0, 1);
        Calls.due("STARTED with its last step", c.x.told(0, 21, 5), 2);
        Calls.due("what it did", c.x.fixed(0, 21, 0), 1);
        Calls.due("what it read", c.x.fixed(0, 21, 1), -7);
        Calls.due("g has no frame yet", c.x.run(0, 0, 6), 0);
        Calls.due("to its end", c.x.step(0, 2), 0);
        Calls.due("eight of the start, one of f, two of g", c.x.run(0, 0, 1), 11);
    }

    /** NEW when linking fails; FAILED: "ClassFault (at an instruction: a step that throws)", without a step before the first one. */
    private static void startStates() {
        Calls c = world(0, "class A : Gone|method static f()none|room 0 0|done|end|class B : Thing|method static f()none|room 0 0|done|method static <start>()none|room 1 0|null|throw|end"
            + "|class U : Thing|method static a()none|room 1 0|static A.f()none|done|method static b()none|room 1 0|static B.f()none|done|end");
        for (int i = 0; i < 2; i++) {
            fails(c, "A.f()none", 20, 11);
            Calls.due("what fails to link stays NEW", c.x.told(0, 21, 5), 0);
            Calls.due("without a step", c.x.run(0, 0, 1), 0);
            fails(c, "U.a()none", 20, 11);
            Calls.due("NEW", c.x.told(0, 21, 5), 0);
        }
        Calls.due("A was never begun", c.x.run(0, 0, 12), 1);
        fails(c, "U.b()none", 0, 20);
        Calls.due("FAILED", c.x.told(0, 22, 5), 3);
        Calls.due("the steps of the start alone", c.x.run(0, 0, 1), 2);
        for (int i = 0; i < 2; i++) {
            fails(c, "U.b()none", 0, 11);
            Calls.due("a step that throws", c.x.run(0, 0, 1), 1);
            fails(c, "B.f()none", 0, 11);
            Calls.due("before the first step: none", c.x.run(0, 0, 1), 0);
        }
        Calls.due("begun once", c.x.run(0, 0, 12), 2);
    }

    /** "when it throws x it is FAILED, and x is thrown on if its class is below LinkFault, else a new StartFault". */
    private static void startsThrow() {
        String own = "class E : %|method <make>()none|room 1 1|rload 0|special %.<make>()none|done|end";
        String[] above = {"Fault", "NullFault", "LinkFault", "ClassFault", "StartFault"};
        int[] due = {20, 20, 24, 24, 24};
        for (int i = 0; i < above.length; i++) {
            Calls c = world(0, "class C : P|method static f()none|room 0 0|done|end|class P : Thing|method static <start>()none|room 2 0|new E|dup|special E.<make>()none|throw|end|class U : Thing|end|"
                + own.replace("%", above[i]));
            fails(c, "C.f()none", 0, due[i]);
            Calls.due("C FAILED", c.x.told(0, 21, 5), 3);
            Calls.due("P FAILED", c.x.told(0, 22, 5), 3);
        }
        String[] throwing = {"null|throw", "num 1|num 0|div|pop|done", "new Gone|pop|done", "new LinkFault|dup|special LinkFault.<make>()none|throw", "sget Q.x num|pop|done", "static P.gone()none|done",
            "num 301|newrow|pop|done", "num 0|newrow|leave|done"};
        int[] classes = {20, 20, 11, 10, 14, 13, 20, 20};
        int[] rules = {0, 0, 50, 0, 53, 52, 0, 0};
        for (int i = 0; i < throwing.length; i++) {
            Calls c = world(0, "class C : P|method static f()none|room 0 0|done|end|class P : Thing|method static <start>()none|room 3 0|" + throwing[i] + "|end|class Q : Thing|field private static x num|end");
            fails(c, "C.f()none", rules[i], classes[i]);
        }
        // a StartFault of a start within a start is thrown on
        Calls c = world(0, "class A : Thing|method static f()none|room 0 0|done|method static <start>()none|room 1 0|sget B.x num|pop|done|end|class B : Thing|field static x num|method static <start>()none|room 1 0|null|throw|end");
        fails(c, "A.f()none", 0, 20);
        Calls.due("A FAILED", c.x.told(0, 21, 5), 3);
        Calls.due("B FAILED", c.x.told(0, 22, 5), 3);
        // taken within the start it is no failure
        c = world(0, "class A : Thing|method static f()none|room 0 0|done|method static <start>()none|room 1 0|handler a b c StartFault|a: sget B.x num|pop|b: done|frame;StartFault|c: pop|done|end"
            + "|class B : Thing|field static x num|method static <start>()none|room 1 0|null|throw|end");
        run(c, 0, "A.f()none");
        Calls.due("ended", c.x.run(0, 0, 0), 0);
        Calls.due("A STARTED", c.x.told(0, 21, 5), 2);
        Calls.due("B FAILED", c.x.told(0, 22, 5), 3);
    }

    /** "unless it is a face its parent is started"; a class's faces are not. */
    private static void startsOfFaces() {
        Calls c = world(0, "face class I : Thing, J|field static final x num = 4|method static <start>()none|room 0 0|done|end|face class J : Thing|method static <start>()none|room 0 0|done|end"
            + "|class A : Thing, I|method static f()num|room 1 0|num 1|ndone|method static g()num|room 1 0|sget A.x num|ndone|end");
        number(c, "A.f()num", 1);
        Calls.due("I is NEW", c.x.told(0, 21, 5), 0);
        number(c, "A.g()num", 4);
        Calls.due("I STARTED", c.x.told(0, 21, 5), 2);
        Calls.due("J is NEW", c.x.told(0, 22, 5), 0);
        // with 21 broken a parent may be a face: it is started, not what is above it
        c = world(8, "class A : I|method static f()num|room 1 0|num 1|ndone|end|face class I : Thing|field static final x num = 4|end");
        number(c, "A.f()num", 1);
        Calls.due("the parent STARTED", c.x.told(0, 22, 5), 2);
    }

    /** "One before which a class has to be started is a step once, when that has ended: it is found, and done, from its beginning". */
    private static void startsAndSteps() {
        Calls c = world(0, "class S : Thing|field static x num = 3|method static <start>()none|room 1 0|num 8|sput S.x num|done|end|class A : Thing|method static f()num|room 2 1|nop|num 5|sget S.x num|add|ndone|end");
        c.call(0, 0, "A.f()num");
        c.x.step(0, 2);
        Calls.due("nothing is done behind the last step", c.x.told(0, 21, 5), 0);
        Calls.due("it is not linked, either", c.x.told(0, 21, 6), 0);
        Calls.due("nor is a start traced", c.x.trace(0, 3, 0), -2);
        c.x.step(0, 1);
        Calls.due("then the start begins", c.x.told(0, 21, 5), 1);
        Calls.due("in a frame", c.x.run(0, 0, 6), 2);
        Calls.due("sget was not done", c.x.done(0, 48), 0);
        c.x.step(0, 2);
        Calls.due("STARTED", c.x.told(0, 21, 5), 2);
        Calls.due("sget was not done", c.x.done(0, 48), 0);
        Calls.due("at it", c.x.run(0, 0, 9), 2);
        Calls.due("what stood on the stack stands there", c.x.value(0, 0, true, 0), 5);
        c.x.step(0, 1);
        Calls.due("done once", c.x.done(0, 48), 1);
        Calls.due("the number", c.x.value(0, 0, true, 0), 8);
        Calls.due("steps", c.x.run(0, 0, 1), 6);
        // what is found anew: in the start the class that hides it comes not; but a field that became private of another does not change
        c = world(0, "class S : Thing|field static x num|method static <start>()none|room 1 0|null|throw|end|class A : Thing|method static f()num|room 2 0|handler a b c any|num 5|a: sget S.x num|b: add|ndone|frame;Fault|c: pop|num 4|ndone|end");
        run(c, 0, "A.f()num");
        Calls.due("thrown at it", c.x.run(0, 0, 3), 4);
        Calls.due("without a step: 1, 2, 3", c.x.run(0, 0, 1), 6);
        Calls.due("not counted", c.x.done(0, 48), 0);
    }

    /** A thread WAITS where a class has to be started that GOES ON in another one. */
    private static void startsWait() {
        String told = "class S : Thing|field static x num|field static o Thing|method static <start>()none|room 1 0|nop|nop|nop|num 4|sput S.x num|done|end|class C : S|field static y num|end"
            + "|class A : Thing|method static f()num|room 1 0|nop|%|ndone|method static g()num|room 1 0|sget S.x num|ndone|end";
        String[] lines = {"sget S.x num", "sget C.x num", "sget C.y num", "new C|pop|sget S.x num", "num 9|sput S.x num|sget S.x num"};
        int[] due = {4, 4, 0, 4, 9};
        for (int i = 0; i < lines.length; i++) {
            Calls c = world(0, told.replace("%", lines[i]));
            c.x.quantum(0, 2);
            c.call(0, 2, "A.g()num");
            c.x.step(0, 2);
            Calls.due("GOES ON in 2", c.x.told(0, 21, 5), 1);
            c.call(0, 1, "A.f()num");
            c.x.step(0, 2);
            Calls.due("1 is found to wait, or did two steps", c.x.run(0, 1, 0) == 4 || c.x.run(0, 1, 1) == 2 ? 1 : 0, 1);
            Calls.due("to the end", c.x.step(0, 99), 0);
            Calls.due(lines[i], c.x.run(0, 1, 3), due[i]);
        }
        // the run's own class
        Calls c = world(0, "class S : Thing|method static <start>()none|room 1 0|nop|nop|nop|done|method static f()num|room 1 0|num 6|ndone|end");
        c.x.quantum(0, 1);
        c.call(0, 1, "S.f()num");
        c.call(0, 2, "S.f()num");
        c.x.step(0, 2);
        Calls.due("2 waits before its first step", c.x.run(0, 2, 0), 4);
        Calls.due("without a step", c.x.run(0, 2, 1), 0);
        Calls.due("without a frame", c.x.run(0, 2, 6), 0);
        Calls.due("all", c.x.step(0, 99), 0);
        Calls.due("2 ended", c.x.run(0, 2, 3), 6);
        Calls.due("by two steps", c.x.run(0, 2, 1), 2);
        Calls.due("1 by six", c.x.run(0, 1, 1), 6);
        // each waits for the other's class
        c = world(0, "class S : Thing|field static x num|method static <start>()none|room 1 0|nop|sget T.x num|pop|done|end|class T : Thing|field static x num|method static <start>()none|room 1 0|nop|sget S.x num|pop|done|end"
            + "|class A : Thing|method static s()num|room 1 0|sget S.x num|ndone|method static t()num|room 1 0|sget T.x num|ndone|end");
        c.x.quantum(0, 1);
        c.call(0, 1, "A.s()num");
        c.call(0, 2, "A.t()num");
        Calls.due("STUCK", c.x.step(0, 99), 3);
        Calls.due("1", c.x.run(0, 1, 0), 4);
        Calls.due("2", c.x.run(0, 2, 0), 4);
        Calls.due("one step each", c.x.run(0, 1, 1) + c.x.run(0, 2, 1), 2);
        Calls.due("halt", c.x.halt(0), 2);
        Calls.due("S FAILED", c.x.told(0, 21, 5), 3);
        Calls.due("T FAILED", c.x.told(0, 22, 5), 3);
        // alone there is no waiting: the own one's goes by
        c = world(0, "class S : Thing|field static x num = 2|method static <start>()none|room 1 0|sget T.x num|pop|done|end|class T : Thing|field static x num|method static <start>()none|room 1 0|sget S.x num|sput T.x num|done|end"
            + "|class A : Thing|method static s()num|room 1 0|sget S.x num|pop|sget T.x num|ndone|end");
        number(c, "A.s()num", 2);
    }

    /** Whichever threads they are: the one that starts goes on, another one waits; a parent that GOES ON in the own one goes by. */
    private static void startsByThreads() {
        String told = "class S : Thing|field static x num|method static <start>()none|room 2 0|nop|new C|dup|special C.<make>()none|pop|num 4|sput S.x num|done|method static f()num|room 1 0|sget S.x num|ndone" + MAKE + "|end|class C : S|field static y num = 3|method <make>()none|room 1 1|rload 0|special S.<make>()none|done|end"
            + "|class A : Thing|method static x()num|room 1 0|sget S.x num|ndone|method static y()num|room 1 0|sget C.y num|ndone|end";
        String[] calls = {"S.f()num", "A.x()num", "A.y()num"};
        for (int first = 0; first < 3; first++) {
            for (int then = 0; then < 3; then++) {
                for (int how = 0; how < 3 && first != then; how++) {
                    Calls c = world(0, told);
                    c.x.quantum(0, 1);
                    // the first turn has 50 steps still, one behind halt() has not
                    Calls.due("none is on", c.x.halt(0), 0);
                    c.call(0, first, "S.f()num");
                    c.x.step(0, 1);
                    Calls.due("GOES ON", c.x.told(0, 21, 5), 1);
                    Calls.due("then", c.call(0, then, calls[how]), 0);
                    // it is looked at when the other one's turn is over
                    for (int i = 0; i < 60 && c.x.run(0, then, 0) == 1 && c.x.told(0, 21, 5) == 1; i++) {
                        c.x.step(0, 1);
                    }
                    Calls.due(then + " waits for " + first + " by " + calls[how], c.x.run(0, then, 0), 4);
                    Calls.due("S GOES ON", c.x.told(0, 21, 5), 1);
                    Calls.due("a run whose class GOES ON has no frame", c.x.run(0, then, 6), how == 0 ? 0 : 1);
                    if (how == 2) {
                        // it began the start of C, which that of S wants: each waits for the other
                        Calls.due("STUCK", c.x.step(0, 99), 3);
                        Calls.due("the first one waits", c.x.run(0, first, 0), 4);
                        Calls.due("C GOES ON", c.x.told(0, 22, 5), 1);
                        continue;
                    }
                    Calls.due("all end", c.x.step(0, 99), 0);
                    Calls.due("the first one's", c.x.run(0, first, 3), 4);
                    Calls.due("the other one's", c.x.run(0, then, 3), 4);
                    Calls.due("S STARTED", c.x.told(0, 21, 5), 2);
                    Calls.due("C STARTED, within the start of S", c.x.told(0, 22, 5), 2);
                }
            }
        }
    }

    /** halt(): "Classes whose starts went on in them have FAILED". */
    private static void haltsInStarts() {
        Calls c = world(0, "class S : P|field static x num|end|class P : Thing|method static <start>()none|room 0 0|nop|nop|done|end|class T : Thing|field static x num|method static <start>()none|room 1 0|sget S.x num|pop|done|end"
            + "|class A : Thing|method static f()num|room 1 0|sget T.x num|ndone|end|class N : Thing|end");
        c.call(0, 1, "A.f()num");
        c.x.step(0, 1);
        int[] on = {1, 1, 1, 2, 0};
        for (int k = 0; k < 5; k++) {
            Calls.due("state of " + k, c.x.told(0, 21 + k, 5), on[k]);
        }
        Calls.due("one", c.x.halt(0), 1);
        int[] behind = {3, 3, 3, 2, 0};
        for (int k = 0; k < 5; k++) {
            Calls.due("state behind halt of " + k, c.x.told(0, 21 + k, 5), behind[k]);
        }
        Calls.due("no run", c.x.run(0, 1, 0), -2);
        fails(c, "A.f()num", 0, 11);
        Calls.due("begun", c.x.run(0, 0, 12), 4);
    }

    /** FIELD: "in C, else in its faces in order (each so on by faces), else in its parent and so on". */
    private static void fieldsFound() {
        String[] names = {"C", "I", "K", "J", "P", "L", "Q"};
        String[] heads = {"class C : P, I, J", "face class I : Thing, K", "face class K : Thing", "face class J : Thing, K", "class P : Q, L", "face class L : Thing", "class Q : Thing"};
        for (int first = 0; first < names.length; first++) {
            StringBuilder told = new StringBuilder();
            for (int k = 0; k < names.length; k++) {
                told.append(heads[k]).append("|field static final y row");
                told.append(k >= first ? "|field static final x num = " + (k + 1) : "|field static final x row").append("|end|");
            }
            Calls c = world(0, told + "class A : Thing|method static f()num|room 1 0|sget C.x num|ndone|method static g()num|room 1 0|sget P.x num|ndone|method static h()num|room 1 0|sget I.x num|ndone|end");
            number(c, "A.f()num", first + 1);
            number(c, "A.g()num", Math.max(first, 4) + 1);
            if (first <= 2) {
                number(c, "A.h()num", Math.max(first, 1) + 1);
            } else {
                fails(c, "A.h()num", 51, 12);
            }
        }
        // a parent's face comes behind the own ones, and before its parent
        Calls c = world(0, "class C : P|end|class P : Q, L|end|face class L : Thing|field static final x num = 1|end|class Q : Thing|field static x num = 2|end|class A : Thing|method static f()num|room 1 0|sget C.x num|ndone|end");
        number(c, "A.f()num", 1);
        // with 51: the NAME, but another TYPE
        c = world(0, "class C : Thing|field static x num|field static X row|end|class A : Thing|method static f()num|room 1 0|sget C.x row|pop|num 1|ndone|method static g()num|room 1 0|sget C.X num|ndone"
            + "|method static h()num|room 1 0|sget C.x C|pop|num 1|ndone|end");
        fails(c, "A.f()num", 51, 12);
        fails(c, "A.g()num", 51, 12);
        fails(c, "A.h()num", 51, 12);
    }

    /** 50, what fails to link, 51, 53, 55, 54 in this order. */
    private static void fieldRules() {
        String lib = "class B : Thing|field private p num|field private static final q num|field final e num|field static final g num|field o num|field static s num|field private final t num|end"
            + "|face class I : Thing|field static final i num = 1|end|class Bad : Gone|field static x num|end|class A : B|field private own num|field private static mine num = 6|method static f()none|room 5 1|";
        String[] lines = {"sget Gone.x num|pop", "null|fget Gone.x num|pop", "sget Bad.x num|pop", "sget Bad.y num|pop", "sget B.y num|pop", "sget B.p num|pop", "null|fget B.p num|pop", "null|fget B.q num|pop",
            "num 1|sput B.q num", "null|num 1|fput B.q num", "sget B.o num|pop", "null|fget B.s num|pop", "null|num 1|fput B.g num", "num 1|sput B.e num", "null|num 1|fput B.e num", "num 1|sput B.g num", "null|fget I.i num|pop",
            "null|num 1|fput I.i num", "num 1|sput I.i num", "null|num 1|fput B.t num", "null|fget A.p num|pop", "sget A.q num|pop", "null|num 1|fput A.e num"};
        int[] due = {50, 50, 20, 20, 51, 53, 53, 53, 53, 53, 55, 55, 55, 55, 54, 54, 55, 55, 54, 53, 53, 53, 54};
        int[] classes = {11, 11, 11, 11, 12, 14, 14, 14, 14, 14, 15, 15, 15, 15, 14, 14, 15, 15, 14, 14, 14, 14, 14};
        for (int i = 0; i < lines.length; i++) {
            Calls c = world(0, lib + lines[i] + "|done|end");
            fails(c, "A.f()none", due[i], classes[i]);
        }
        Calls c = world(0, lib + "sget A.mine num|pop|null|fget A.own num|pop|done|end");
        fails(c, "A.f()none", 0, 2);
        // 53 and 54 broken, 55 never
        c = world(32, lib + "null|fget B.q num|pop|done|end");
        fails(c, "A.f()none", 55, 15);
        c = world(32, lib + "null|num 1|fput B.t num|done|end");
        fails(c, "A.f()none", 54, 14);
        c = world(96, lib + "null|num 1|fput B.t num|done|end");
        fails(c, "A.f()none", 0, 2);
        c = world(64, lib + "num 1|sput B.q num|done|end");
        fails(c, "A.f()none", 53, 14);
    }

    /** 54: "fput, sput of a final one, but in the class that has it, in <make> (fput) or <start> (sput)". */
    private static void finalFields() {
        String lib = "class P : Thing|field final o num|field static final s num|method <make>()none|room 3 1|rload 0|special Thing.<make>()none|%0|done|method static <start>()none|room 3 0|%1|done"
            + "|method m()none|room 3 1|%2|done|method static f()num|room 3 1|new P|dup|special P.<make>()none|rstore 0|rload 0|call P.m()none|rload 0|fget P.o num|ndone|end"
            + "|class C : P|method <make>()none|room 3 1|rload 0|special P.<make>()none|%3|done|method static <start>()none|room 3 0|%4|done|method static f()num|room 3 1|new C|dup|special C.<make>()none|pop|sget P.s num|ndone|end";
        String fput = "rload 0|num 4|fput P.o num";
        String sput = "num 5|sput P.s num";
        String nullput = "null|num 4|fput P.o num";
        String[] puts = {fput, sput, sput, nullput, fput, sput, fput, sput, sput, nullput, "rload 0|num 4|fput C.o num"};
        int[] where = {0, 1, 0, 1, 2, 2, 3, 3, 4, 4, 3};
        int[] due = {0, 0, 54, 54, 54, 54, 54, 54, 54, 54, 54};
        for (int i = 0; i < puts.length; i++) {
            String told = lib.replace("%" + where[i], puts[i]);
            for (int k = 0; k < 5; k++) {
                told = told.replace("|%" + k, "");
            }
            Calls c = world(0, told);
            String call = where[i] > 2 ? "C.f()num" : "P.f()num";
            run(c, 0, call);
            Calls.due(puts[i] + " at " + where[i], c.x.run(0, 0, 5), due[i]);
            Calls.due("class " + puts[i] + " at " + where[i], c.x.run(0, 0, 4), due[i] == 0 ? -2 : 14);
            c = world(64, told);
            run(c, 0, call);
            Calls.due("with its break " + puts[i] + " at " + where[i], c.x.run(0, 0, 5), 0);
        }
        Calls c = world(0, lib.replace("%0", fput).replace("%1", sput).replace("|%2", "").replace("|%3", "").replace("|%4", ""));
        number(c, "P.f()num", 4);
        number(c, "C.f()num", 5);
        // also by a name of a class below: it is found in the class that has it
        c = world(0, "class P : Thing|field static final s num|method static <start>()none|room 1 0|num 7|sput C.s num|done|method static f()num|room 1 0|sget C.s num|ndone|end|class C : P|end");
        number(c, "P.f()num", 7);
    }

    /** METHOD: "the first one of this NAME, types and result in C, its parent and so on". */
    private static void methodsFound() {
        String lib = "class C : P|method static a(num)num|room 1 1|num 1|ndone|method static a(row)num|room 1 1|num 2|ndone|method static a(num)row|room 1 1|null|rdone|method static a()num|room 1 0|num 3|ndone|end"
            + "|class P : Q|method static a(num,num)num|room 1 2|num 4|ndone|method static b()num|room 1 0|num 5|ndone|end|class Q : Thing|method static b()num|room 1 0|num 6|ndone|method static c()num|room 1 0|num 7|ndone|end|";
        String[] lines = {"num 1|static C.a(num)num", "null|static C.a(row)num", "static C.a()num", "num 1|num 1|static C.a(num,num)num", "static C.b()num", "static C.c()num", "static Q.b()num"};
        int[] due = {1, 2, 3, 4, 5, 7, 6};
        for (int i = 0; i < lines.length; i++) {
            number(world(0, lib + "class A : Thing|method static f()num|room 2 0|" + lines[i] + "|ndone|end"), "A.f()num", due[i]);
        }
        String[] none = {"static C.d()num", "num 1|static C.b(num)num", "num 1|num 1|num 1|static C.a(num,num,num)num", "null|static C.a(C)num", "static Q.a()num"};
        for (String one : none) {
            fails(world(0, lib + "class A : Thing|method static f()num|room 3 0|" + one + "|ndone|end"), "A.f()num", 52, 13);
        }
        // by a run: found as by static, by a method of no class
        Calls c = world(0, lib + "class A : C|method private static f()num|room 1 0|num 1|ndone|method g()num|room 1 1|num 1|ndone|end|face class I : Thing|method static h()num|room 1 0|num 8|ndone|end|class Bad : Gone|end");
        number(c, "C.a(num)num : 9", 1);
        number(c, "A.b()num", 5);
        number(c, "A.a(num,num)num : 9, 9", 4);
        number(c, "I.h()num", 8);
        fails(c, "A.f()num", 53, 14);
        fails(c, "A.g()num", 55, 15);
        fails(c, "A.h()num", 52, 13);
        fails(c, "Gone.h()num", 50, 11);
        fails(c, "Bad.h()num", 20, 11);
        fails(c, "A.start()num", 52, 13);
        run(c, 0, "C.a(num)row : 1");
        Calls.due("the one of this result", c.x.run(0, 0, 2), 2);
    }

    /** "else in all faces above C, in the order in which they are come to ..: the first that is not abstract, else the first". */
    private static void methodsInFaces() {
        String[] names = {"I", "K", "J", "L", "M"};
        String[] heads = {"face class I : Thing, K", "face class K : Thing", "face class J : Thing", "face class L : Thing, M, I", "face class M : Thing"};
        // which of them have the method with a body, as bits: the first by the order I, K, J, L, M
        for (int bits = 0; bits < 32; bits++) {
            StringBuilder told = new StringBuilder("class C : P, I, J|end|class P : Thing, L|end|");
            int first = -1;
            for (int k = 0; k < 5; k++) {
                boolean has = (bits >> k & 1) == 1;
                first = has && first < 0 ? k : first;
                told.append(heads[k]).append(has ? "|method static m()num|room 1 0|num " + (k + 1) + "|ndone" : "|method abstract n()num").append("|end|");
            }
            Calls c = world(0, told + "class A : Thing|method static f()num|room 1 0|static C.m()num|ndone|end");
            if (first < 0) {
                fails(c, "A.f()num", 52, 13);
            } else {
                number(c, "A.f()num", first + 1);
            }
        }
        // the first that is not abstract, else the first
        String three = "class C : Thing, I, J, K" + MAKE + "|end|face class I : Thing|method %0|end|face class J : Thing|method %1|end|face class K : Thing|method %2|end"
            + "|class A : Thing|method static f()num|room 2 0|new C|dup|special C.<make>()none|call C.m()num|ndone|end";
        for (int bits = 0; bits < 8; bits++) {
            String told = three;
            int first = -1;
            for (int k = 0; k < 3; k++) {
                boolean whole = (bits >> k & 1) == 1;
                first = whole && first < 0 ? k : first;
                told = told.replace("%" + k, whole ? "m()num|room 1 1|num " + (k + 1) + "|ndone" : "abstract m()num");
            }
            Calls c = world(0, told);
            if (first < 0) {
                fails(c, "A.f()num", 58, 18);
                Calls.due("asked", c.asked(0, 21, "C.m()num"), -158);
            } else {
                number(c, "A.f()num", first + 1);
                Calls.due("asked", c.asked(0, 21, "C.m()num"), 100 * (22 + first));
            }
        }
        // in C or above by parents first, though abstract
        Calls c = world(0, "abstract class C : Thing, I|method abstract m()num|end|face class I : Thing|method m()num|room 1 1|num 1|ndone|end");
        Calls.due("abstract", c.asked(0, 21, "C.m()num"), -158);
        Calls.due("by the face it is C's, too", c.asked(0, 21, "C.m()num"), -158);
        c = world(0, "class C : P, I|end|class P : Thing|method m()num|room 1 1|num 2|ndone|end|face class I : Thing|method m()num|room 1 1|num 1|ndone|end");
        Calls.due("the parent's before the face's", c.asked(0, 21, "C.m()num"), 2200);
    }

    /** 50, linking, 56, 52, 53, 55, 58 in this order. */
    private static void methodRules() {
        String lib = "class B : Thing|method private h()none|room 0 1|done|method static private k()none|room 0 0|done|method v()none|room 0 1|done|method static s()none|room 0 0|done|end"
            + "|face class I : Thing|method abstract u()none|method static t()none|room 0 0|done|method w()none|room 0 1|done|end|class Bad : Gone|end|face class BadI : Thing, Gone|end|abstract class Z : Thing|method abstract a()none|end"
            + "|class A : B|method private mine()none|room 0 1|done|method static f()none|room 5 1|";
        String[] lines = {"static Gone.s()none", "null|call Gone.s()none", "null|facecall Gone.s()none", "static Bad.s()none", "null|call BadI.s()none", "null|facecall Bad.s()none", "null|call I.u()none", "null|call I.none2()none",
            "null|facecall B.v()none", "null|facecall B.nothing()none", "static B.nothing()none", "null|call B.nothing()none", "null|facecall I.nothing()none", "null|call B.h()none", "static B.k()none", "null|call A.h()none", "static A.k()none",
            "static B.h()none", "null|call B.k()none", "static B.v()none", "null|call B.s()none", "null|facecall I.t()none", "static I.w()none", "static Z.a()none", "null|call Z.a()none", "null|facecall I.u()none", "null|facecall I.w()none",
            "null|call A.mine()none", "static A.mine()none"};
        int[] rules = {50, 50, 50, 20, 22, 20, 56, 56, 56, 56, 52, 52, 52, 53, 53, 53, 53, 53, 53, 55, 55, 55, 55, 55, 0, 0, 0, 0, 55};
        int[] classes = {11, 11, 11, 11, 11, 11, 15, 15, 15, 15, 13, 13, 13, 14, 14, 14, 14, 14, 14, 15, 15, 15, 15, 15, 2, 2, 2, 2, 15};
        for (int i = 0; i < lines.length; i++) {
            Calls c = world(0, lib + lines[i] + "|done|end");
            fails(c, "A.f()none", rules[i], classes[i]);
        }
        Calls c = world(32, lib + "static B.k()none|null|call B.h()none|done|end");
        fails(c, "A.f()none", 0, 2);
        c = world(32, lib + "static B.h()none|done|end");
        fails(c, "A.f()none", 55, 15);
    }

    /** "<make>: in C alone". */
    private static void makesFound() {
        Calls c = world(0, "class C : P|method static f()none|room 2 0|new C|dup|special C.<make>()none|pop|done|end|class P : Thing|method <make>()none|room 1 1|rload 0|special Thing.<make>()none|done|method private <make>(num)none|room 1 2|rload 0|special Thing.<make>()none|done"
            + "|method static g()none|room 3 0|new P|dup|num 1|special P.<make>(num)none|pop|done|end|class D : P|method <make>()none|room 2 1|rload 0|num 1|special P.<make>(num)none|done|method static f()none|room 2 0|new D|dup|special D.<make>()none|pop|done|end"
            + "|class E : Thing|method static f()none|room 3 0|new P|dup|num 1|special P.<make>(num)none|pop|done|method static h()none|room 3 0|new P|dup|null|special P.<make>(row)none|pop|done|method static i()none|room 3 0|new Gone|dup|special Gone.<make>()none|pop|done|end");
        fails(c, "C.f()none", 52, 13);
        run(c, 0, "P.g()none");
        Calls.due("its own private one", c.x.run(0, 0, 0), 0);
        fails(c, "D.f()none", 53, 14);
        fails(c, "E.f()none", 53, 14);
        fails(c, "E.h()none", 52, 13);
        fails(c, "E.i()none", 50, 11);
    }

    /** WHICH IS CALLED: "from the object's class on up by parents the first one .. that is neither static nor private; else in the faces above the object's class". */
    private static void whichIsCalled() {
        String lib = "class P : Thing, I" + MAKE + "|method m()num|room 1 1|num 1|ndone|method private p()num|room 1 1|num 2|ndone|method static viaP(P)num|room 1 1|rload 0|call P.p()num|ndone|end"
            + "|class Q : P" + MAKE.replace("Thing", "P") + "|method m()num|room 1 1|num 3|ndone|method p()num|room 1 1|num 4|ndone|end"
            + "|class R : Q" + MAKE.replace("Thing", "Q") + "|method private m()num|room 1 1|num 5|ndone|method static p()num|room 1 0|num 6|ndone|end"
            + "|face class I : Thing, J|method d()num|room 1 1|num 7|ndone|end|face class J : Thing|method abstract d()num|method e()num|room 1 1|num 8|ndone|end"
            + "|class N : Thing" + MAKE + "|end|class A : Thing|method static f()num|room 3 0|%|ndone|end";
        String[] lines = {"new P#|call P.m()num", "new Q#|call P.m()num", "new R#|call P.m()num", "new R#|call Q.m()num", "new Q#|static P.viaP(P)num", "new Q#|call Q.p()num", "new R#|call Q.p()num", "new R#|call P.d()num", "new R#|facecall I.d()num",
            "new R#|facecall J.d()num", "new R#|facecall I.e()num", "new R#|facecall J.e()num", "new R#|call R.e()num"};
        int[] due = {1, 3, 3, 3, 2, 4, 4, 7, 7, 7, 8, 8, 8};
        for (int i = 0; i < lines.length; i++) {
            String made = lines[i].substring(4, 5);
            number(world(0, lib.replace("%", lines[i].replace("#", "|dup|special " + made + ".<make>()none"))), "A.f()num", due[i]);
        }
        // 59: the object's class is below C
        String[] others = {"new N|dup|special N.<make>()none|facecall I.d()num", "new N|dup|special N.<make>()none|facecall J.e()num", "num 0|newrow|cast Thing|facecall I.d()num", "new Thing|dup|special Thing.<make>()none|facecall I.d()num"};
        for (String one : others) {
            fails(world(0, lib.replace("%", one)), "A.f()num", 59, 15);
        }
        fails(world(0, lib.replace("%", "null|facecall I.d()num")), "A.f()num", 0, 2);
        // R's own private one hides nothing, but is found when it is named
        fails(world(0, lib.replace("%", "null|call R.m()num")), "A.f()num", 53, 14);
        fails(world(0, lib.replace("%", "null|call R.p()num")), "A.f()num", 55, 15);
    }

    /** 58: "none, or it is abstract"; at once of static, special and private ones. */
    private static void abstractOnes() {
        String lib = "abstract class U : Thing, I" + MAKE + "|method abstract a()num|end|class V : U" + MAKE.replace("Thing", "U") + "|end|class W : V" + MAKE.replace("Thing", "V")
            + "|method a()num|room 1 1|num 4|ndone|method private b()num|room 1 1|num 5|ndone|method s()num|room 1 1|rload 0|special W.a()num|ndone|method t()num|room 1 1|rload 0|special V.a()num|ndone|end|face class I : Thing|method abstract b()num|end"
            + "|class A : Thing|method static f()num|room 3 0|%|ndone|end";
        number(world(0, lib.replace("%", "new W|dup|special W.<make>()none|call U.a()num")), "A.f()num", 4);
        fails(world(0, lib.replace("%", "new V|dup|special V.<make>()none|call U.a()num")), "A.f()num", 58, 18);
        fails(world(0, lib.replace("%", "new W|dup|special W.<make>()none|facecall I.b()num")), "A.f()num", 58, 18);
        fails(world(0, lib.replace("%", "new V|dup|special V.<make>()none|call V.b()num")), "A.f()num", 58, 18);
        number(world(0, lib.replace("%", "new W|dup|special W.<make>()none|call W.s()num")), "A.f()num", 4);
        fails(world(0, lib.replace("%", "new W|dup|special W.<make>()none|call W.t()num")), "A.f()num", 58, 18);
        // null is asked behind what is asked at once
        Calls c = world(0, lib.replace("%", "num 1"));
        Calls.due("which a V takes", c.asked(0, 22, "U.a()num"), -158);
        Calls.due("which a W takes", c.asked(0, 23, "U.a()num"), 2301);
        Calls.due("by I's abstract one", c.asked(0, 23, "W.b()num"), 2302);
        Calls.due("a Thing has none", c.asked(0, 0, "U.a()num"), -158);
        Calls.due("that it is below is not asked", c.asked(0, 23, "A.f()num"), -155);
    }

    /** With 5 broken faces may have what they else have not; static and private methods of faces are passed over for objects. */
    private static void facesForObjects() {
        // fget, fput of a face's field: 55 though it is not static
        Calls c = world(2, "face class I : Thing|field x num|field static y num|end|class A : Thing, I|method static f()none|room 2 0|null|fget I.x num|pop|done|method static g()none|room 2 0|null|num 1|fput A.x num|done|method static h()none|room 2 0|num 1|sput A.y num|sget I.x num|pop|done|end");
        fails(c, "A.f()none", 55, 15);
        fails(c, "A.g()none", 55, 15);
        fails(c, "A.h()none", 55, 15);
        // <make> in C alone, not in its faces
        c = world(2, "face class I : Thing|method <make>()none|room 0 1|frame unmade;|L: jump L|end|class C : Thing, I|method static f()none|room 2 0|new C|dup|special C.<make>()none|pop|done|end");
        fails(c, "C.f()none", 52, 13);
        // none is whole: the first is found, and asked 53
        c = world(3, "face class I : Thing|method private abstract m()none|end|face class J : Thing|method abstract m()none|end|class C : Thing, I, J|end|class D : Thing, J, I|end|class A : Thing|method static f()none|room 1 0|null|call C.m()none|done|method static g()none|room 1 0|null|call D.m()none|done|end");
        fails(c, "A.f()none", 53, 14);
        fails(c, "A.g()none", 0, 2);
        // for an object I's static one is passed over, though I comes first
        String told = "face class I : Thing|method static m()num|room 1 0|num 1|ndone|end|face class J : Thing|method m()num|room 1 1|num 2|ndone|end|class P : Thing, J" + MAKE + "|end|class C : P, I" + MAKE.replace("Thing", "P") + "|end"
            + "|class A : Thing|method static f()num|room 2 0|new C|dup|special C.<make>()none|call P.m()num|ndone|method static g()num|room 2 0|new C|dup|special C.<make>()none|facecall J.m()num|ndone|method static h()num|room 2 0|null|call C.m()num|ndone|end";
        c = world(0, told);
        number(c, "A.f()num", 2);
        number(c, "A.g()num", 2);
        fails(c, "A.h()num", 55, 15);
        Calls.due("asked", c.asked(0, 24, "P.m()num"), 2200);
        Calls.due("of a Thing", c.asked(0, 0, "P.m()num"), -158);
        Calls.due("reached", c.x.reach(0, 25, 0), 4);
        int[] due = {2500, 2400, 2200, 2300};
        for (int i = 0; i < 4; i++) {
            Calls.due("reached " + i, c.x.reached(i), due[i]);
        }
        // and a private one
        c = world(2, told.replace("method static m()num|room 1 0", "method private m()num|room 1 1"));
        number(c, "A.f()num", 2);
        number(c, "A.g()num", 2);
        fails(c, "A.h()num", 53, 14);
        Calls.due("asked", c.asked(0, 24, "P.m()num"), 2200);
    }

    /** The last class that a world can have is one as others are. */
    private static void thirtiethClass() {
        Calls c = new Calls();
        c.x.world(0);
        StringBuilder told = new StringBuilder();
        for (int i = 0; i < 28; i++) {
            told.append("class C").append(i).append(":Thing").append(i == 0 ? MAKE : "").append("|end|");
        }
        c.goodIn(0, 28, told.toString());
        c.goodIn(0, 2, "face class I : Thing|method m()num|room 1 1|num 4|ndone|end|class Z : C0, I|field static x num = 7|field y num" + MAKE.replace("Thing", "C0")
            + "|method static <start>()none|room 2 0|sget Z.x num|num 1|add|sput Z.x num|done|method static f()num|room 3 1|new Z|dup|special Z.<make>()none|rstore 0|rload 0|is I|rload 0|is C0|add|rload 0|is Z|add|rload 0|is C1|add|ndone|method static g()num|room 1 0|sget Z.x num|ndone|end");
        Calls.due("its number", c.x.told(0, 50, 0), 21);
        Calls.due("it links", c.x.link(0, 50), 0);
        number(c, "Z.g()num", 8);
        number(c, "Z.f()num", 3);
        Calls.due("STARTED", c.x.told(0, 50, 5), 2);
        Calls.due("its object", c.x.object(0, 1, -1), 50);
        Calls.due("what it takes", c.asked(0, 50, "Z.m()num"), 4900);
        Calls.due("reach: its <start> is STARTED", c.x.reach(0, 50, 2), 3);
        Calls.due("f", c.x.reached(0), 5002);
        Calls.due("its <make>", c.x.reached(1), 5000);
        Calls.due("C0's", c.x.reached(2), 2100);
        // a class above that is not there is no class
        String[] heads = {"class Z : Thing, Gone", "class Z : Gone", "face class Z : Thing, Gone", "class Z : Thing, I, Gone"};
        int[] due = {2211, 2011, 2211, 2211};
        for (int i = 0; i < heads.length; i++) {
            c = new Calls();
            c.x.world(0);
            c.goodIn(0, 28, told.toString());
            c.goodIn(0, 2, "face class I : Thing|end|" + heads[i] + "|end");
            Calls.due(heads[i], c.x.link(0, 50), due[i]);
            Calls.due("the first one", c.x.link(0, 21), 0);
        }
    }

    /** For a <start> there has to be a frame; a class without one starts in the 40th frame, too. */
    private static void startsWithFewFrames() {
        String told = "class S : P|field static v num = 3|%|end|class P : Thing|end|class D : Thing|method static f(num)num|room 2 1|nload 0|if0 L|inc 0 -1|nload 0|static D.f(num)num|ndone|frame num;|L: sget S.v num|ndone|end";
        Calls c = world(0, told.replace("|%", ""));
        number(c, "D.f(num)num : 39", 3);
        Calls.due("S STARTED", c.x.told(0, 21, 5), 2);
        String start = "method static <start>()none|room 0 0|done";
        c = world(0, told.replace("%", start));
        number(c, "D.f(num)num : 38", 3);
        c = world(0, told.replace("%", start));
        fails(c, "D.f(num)num : 39", 0, 20);
        Calls.due("S FAILED", c.x.told(0, 21, 5), 3);
        Calls.due("P STARTED", c.x.told(0, 22, 5), 2);
        // the start comes before the frame that a call wants, and before the room that an object wants
        told = told.replace("sget S.v num", "static S.g()num").replace("|%", "|%|method static g()num|room 1 0|num 8|ndone");
        c = world(0, told.replace("|%|", "|"));
        number(c, "D.f(num)num : 38", 8);
        c = world(0, told.replace("|%|", "|"));
        fails(c, "D.f(num)num : 39", 0, 8);
        Calls.due("S STARTED", c.x.told(0, 21, 5), 2);
        c = world(0, told.replace("%", start));
        fails(c, "D.f(num)num : 39", 0, 20);
        Calls.due("S FAILED", c.x.told(0, 21, 5), 3);
        c = world(0, "class S : Thing|field x num|method static <start>()none|room 1 0|num 1|sput D.v num|done|end|class D : Thing|field static v num|method static f()none|room 2 1|num 800|nstore 0|frame num;|L: new Thing|pop|inc 0 -1|nload 0|ifg L|done"
            + "|method static g()none|room 1 0|new S|pop|done|end");
        run(c, 0, "D.f()none");
        Calls.due("to its end", c.x.step(0, 99), 0);
        Calls.due("800 are there", c.x.run(0, 0, 10), 800);
        fails(c, "D.g()none", 0, 9);
        Calls.due("S STARTED", c.x.told(0, 21, 5), 2);
        Calls.due("its <start> was run", c.x.fixed(0, 22, 0), 1);
    }

    /** run() tells 4 of a thread that was found to wait, not of one that was not looked at; a halt ends that. */
    private static void foundToWait() {
        String told = "class S : Thing|method static <start>()none|room 0 0|nop|nop|done|method static f()num|room 1 0|num 6|ndone|end";
        Calls c = world(0, told + "|" + told.replace("class S", "class T"));
        c.x.quantum(0, 1);
        c.call(0, 1, "S.f()num");
        c.call(0, 2, "S.f()num");
        c.x.step(0, 1);
        Calls.due("2 was not looked at", c.x.run(0, 2, 0), 1);
        c.x.step(0, 1);
        Calls.due("now it was", c.x.run(0, 2, 0), 4);
        Calls.due("two are on", c.x.halt(0), 2);
        c.call(0, 0, "T.f()num");
        c.x.step(0, 1);
        c.call(0, 2, "T.f()num");
        Calls.due("a new run was not looked at", c.x.run(0, 2, 0), 1);
        c.x.step(0, 1);
        Calls.due("now it was", c.x.run(0, 2, 0), 4);
        Calls.due("all", c.x.step(0, 99), 0);
        Calls.due("it ended", c.x.run(0, 2, 3), 6);
        // a thread that was halted in a start has none open then
        c = world(0, told + "|class A : Thing|field static x num = 5|method static f()num|room 1 0|sget A.x num|ndone|method static bad()num|room 1 0|null|throw|end");
        c.call(0, 1, "S.f()num");
        c.x.step(0, 1);
        c.x.halt(0);
        Calls.due("S FAILED", c.x.told(0, 21, 5), 3);
        c.call(0, 1, "A.f()num");
        Calls.due("another run", c.x.step(0, 99), 0);
        Calls.due("its number", c.x.run(0, 1, 3), 5);
        c.call(0, 1, "A.bad()num");
        c.x.step(0, 99);
        Calls.due("what it throws is thrown as it is", c.x.run(0, 1, 4), 2);
        Calls.due("S FAILED still", c.x.told(0, 21, 5), 3);
        Calls.due("A STARTED", c.x.told(0, 22, 5), 2);
    }

    /** C of new: 50, it is linked, 57; C of cast, is: 50, no more. */
    private static void classesFound() {
        String lib = "abstract class U : Thing|end|face class I : Thing|end|abstract class Bad : Gone|end|final class F : Thing|end|class Failed : Thing|method static <start>()none|room 1 0|null|throw|end|class A : Thing|method static f()none|room 3 0|%|done|end";
        String[] lines = {"new Gone|pop", "new Bad|pop", "new U|pop", "new I|pop", "new Failed|pop", "num 0|newrow|is Gone|pop", "num 0|newrow|cast Gone|pop"};
        int[] rules = {50, 20, 57, 57, 0, 50, 50};
        int[] classes = {11, 11, 19, 19, 20, 11, 11};
        for (int i = 0; i < lines.length; i++) {
            fails(world(0, lib.replace("%", lines[i])), "A.f()none", rules[i], classes[i]);
        }
        for (String one : new String[] {"new F|pop", "num 0|newrow|is Bad|pop", "num 0|newrow|is U|pop", "null|cast Bad|pop"}) {
            Calls c = world(0, lib.replace("%", one));
            run(c, 0, "A.f()none");
            Calls.due(one, c.x.run(0, 0, 0), 0);
            Calls.due("Bad is not linked", c.x.told(0, 23, 6), 0);
        }
        Calls c = world(128, lib.replace("%", "new U|pop|new I|pop"));
        run(c, 0, "A.f()none");
        Calls.due("with its break", c.x.run(0, 0, 0), 0);
        Calls.due("two objects", c.x.run(0, 0, 10), 2);
        c = world(128, lib.replace("%", "new Bad|pop"));
        fails(c, "A.f()none", 20, 11);
    }

    /** "All this is asked each time anew". */
    private static void askedAnew() {
        Calls c = world(0, "class A : Thing|method static f()num|room 1 0|sget Late.x num|ndone|method static g()num|room 1 0|static Late.y()num|ndone|method static h()num|room 2 0|new Late|pop|num 1|ndone|end");
        fails(c, "A.f()num", 50, 11);
        fails(c, "A.g()num", 50, 11);
        fails(c, "A.h()num", 50, 11);
        fails(c, "Late.y()num", 50, 11);
        c.goodIn(0, 1, "class Late : Thing|field static x num = 3|method static y()num|room 1 0|num 4|ndone|end");
        number(c, "A.f()num", 3);
        number(c, "A.g()num", 4);
        number(c, "A.h()num", 1);
        number(c, "Late.y()num", 4);
        Calls.due("counted each time", c.x.done(0, 48), 2);
    }
}
