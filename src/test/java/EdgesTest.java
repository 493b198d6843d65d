/** Edges of several promises that the other tests pass by. */
public final class EdgesTest {
    public static void main(String[] args) {
        noSuchThreads();
        numbersAndReferences();
        faultsOfTheMachine();
        passedOverInFaces();
        smallDifferences();
        shrinkKeepsBoth();
        handlersOfBuiltIns();
        removedTrials();
        fieldsAbove();
        manyWorlds();
        abstractAtOnce();
        startsOfParents();
        Calls.end();
    }

    private static Calls world(int breaks, String told) {
        Calls c = new Calls();
        c.x.world(breaks);
        c.tape(told.replace('|', '\n'));
        if (c.x.define(0) < 0) {
            Calls.due("a text of " + told, c.x.place(), -2);
        }
        return c;
    }

    private static void noSuchThreads() {
        Calls c = world(0, "class A : Thing|field static a num|field b num|method static f()none|room 1 1|frame ;|L: jump L|end");
        c.call(0, 2, "A.f()none");
        c.x.step(0, 2);
        for (int t = -1; t <= 3; t += 4) {
            for (int what = 0; what < 14; what++) {
                Calls.due("run " + t + " " + what, c.x.run(0, t, what), -1);
            }
            Calls.due("value " + t, c.x.value(0, t, false, 0), -1);
            Calls.due("value " + t, c.x.value(0, t, true, 0), -1);
        }
        int[] ofWorld = {0, 0, 1, 2};
        for (int t = 0; t < 3; t++) {
            for (int what = 10; what < 14; what++) {
                Calls.due("of the world " + t + " " + what, c.x.run(0, t, what), ofWorld[what - 10]);
            }
        }
        int[] due = {-2, 0, 0, 0, -2, 0, 0, -2, -2, -2};
        for (int what = 0; what < 10; what++) {
            Calls.due("without a run " + what, c.x.run(0, 1, what), due[what]);
        }
        Calls.due("run nowhere", c.x.run(2, 0, 10), -1);
        Calls.due("quantum 1", c.x.quantum(0, 1), 50);
        Calls.due("quantum 200", c.x.quantum(0, 200), 1);
        Calls.due("quantum was", c.x.quantum(0, 50), 200);
        Calls.due("fixed -1", c.x.fixed(0, 21, -1), -1);
        Calls.due("fixed 0", c.x.fixed(0, 21, 0), 0);
        Calls.due("fixed 1", c.x.fixed(0, 21, 1), -1);
        Calls.due("fixed 2", c.x.fixed(0, 21, 2), -1);
        Calls.due("fixed of a built-in one", c.x.fixed(0, 1, 0), -1);
        Calls.due("halt", c.x.halt(0), 1);
    }

    private static void numbersAndReferences() {
        Calls c = world(0, "class A : Thing|field r Thing|field x num|field static s Thing|field static n num|method <make>()none|room 1 1|rload 0|special Thing.<make>()none|done|method static f()none|room 4 2|num 5000|nstore 0"
            + "|new A|dup|special A.<make>()none|rstore 1|rload 1|num 5000|fput A.x num|rload 1|rload 1|fput A.r Thing|rload 1|sput A.s Thing|nload 0|sput A.n num|nop|nload 0|rload 1|nop|done|end");
        c.call(0, 0, "A.f()none");
        c.x.step(0, 2 + 4 + 2 + 3 + 3 + 2 + 2 + 3 + 2);
        Calls.due("a number", c.x.value(0, 0, false, 0), 5000);
        Calls.due("a reference", c.x.value(0, 0, false, 1), 1);
        Calls.due("on the stack", c.x.value(0, 0, true, 1), 5000);
        Calls.due("uppermost", c.x.value(0, 0, true, 0), 1);
        Calls.due("field 0", c.x.object(0, 1, 0), 1);
        Calls.due("field 1", c.x.object(0, 1, 1), 5000);
        Calls.due("fixed", c.x.fixed(0, 21, 2), 1);
        Calls.due("fixed", c.x.fixed(0, 21, 3), 5000);
    }

    private static void faultsOfTheMachine() {
        Calls c = world(0, "class A : Thing|field r Thing|field static s Fault|field static o A|method <make>()none|room 1 1|rload 0|special Thing.<make>()none|done|method static f()none|room 4 1|handler a b c any|a: num 1|num 0|div|b: pop|done"
            + "|frame;Fault|c: dup|sput A.s Fault|rstore 0|new A|dup|special A.<make>()none|dup|rload 0|fput A.r Thing|sput A.o A|num 0|newrow|pop|rload 0|enter|nop|done"
            + "|method static in()num|room 2 0|sget A.s Fault|enter|num 1|ndone|method static out()none|room 2 0|sget A.s Fault|leave|done"
            + "|method static again()none|room 2 0|sget A.s Fault|throw|end");
        c.call(0, 0, "A.f()none");
        c.x.step(0, 100);
        Calls.due("it ended", c.x.run(0, 0, 0), 0);
        Calls.due("it has no number", c.x.fixed(0, 21, 1), 0);
        Calls.due("nor in a field", c.x.object(0, 1, 0), 0);
        Calls.due("a row has the next one", c.x.object(0, 2, -1), -2);
        Calls.due("objects and rows", c.x.run(0, 0, 10), 2);
        c.call(0, 1, "A.in()num");
        Calls.due("it can be locked", c.x.step(0, 100), 3);
        c.call(0, 2, "A.out()none");
        c.x.step(0, 100);
        Calls.due("by another one", c.x.run(0, 2, 4), 7);
        Calls.due("row collected", c.x.collect(0), 1);
        c.call(0, 0, "A.out()none");
        Calls.due("left", c.x.step(0, 100), 0);
        Calls.due("entered", c.x.run(0, 1, 3), 1);
        c.call(0, 0, "A.again()none");
        c.x.step(0, 100);
        Calls.due("thrown again", c.x.run(0, 0, 4), 3);
        c.x.halt(0);
        c.call(0, 2, "A.in()num");
        Calls.due("halt freed it", c.x.step(0, 100), 0);
        c = world(0, "class A : Thing|field static s Fault|method static f()none|room 1 0|handler a b c any|a: new Nowhere|pop|b: done|frame;Fault|c: sput A.s Fault|done"
            + "|method static again()none|room 2 0|sget A.s Fault|throw|end");
        c.call(0, 0, "A.f()none");
        c.x.step(0, 100);
        c.call(0, 0, "A.again()none");
        c.x.step(0, 100);
        Calls.due("it has its rule still", c.x.run(0, 0, 5), 50);
    }

    /** With 5 broken a face may have private methods: they are passed over for objects. */
    private static void passedOverInFaces() {
        String lib = "face class I : Thing, J|method private m()num|room 1 1|num 1|ndone|end|face class J : Thing|method m()num|room 1 1|num 2|ndone|end"
            + "|class P : Thing, I|method <make>()none|room 1 1|rload 0|special Thing.<make>()none|done|end";
        Calls c = world(2, lib + "|class A : Thing|method static f()num|room 2 0|new P|dup|special P.<make>()none|facecall J.m()num|ndone"
            + "|method static g()num|room 2 0|new P|dup|special P.<make>()none|call P.m()num|ndone|end");
        c.call(0, 0, "A.f()num");
        c.x.step(0, 100);
        Calls.due("J's", c.x.run(0, 0, 3), 2);
        c.call(0, 0, "A.g()num");
        c.x.step(0, 100);
        Calls.due("I's is found first, and private", c.x.run(0, 0, 5), 53);
        Calls.due("asked by one that may ask all", c.asked(0, 23, "P.m()num"), 2100);
        Calls.due("a row's fields of a face are none of its objects'", c.x.object(0, 1, -3), 0);
    }

    private static void smallDifferences() {
        String[] one = {"frame num;|done", "frame;row|done", "frame num;|done", "nload 0|done", "inc 0 1|done", "fget A.x num|done", "pick 0 a, a|a: done|b: done",
            "L: nop|done|frame;|M: done|handler L M M any", "frame ;|done", "fget A.x num|done", "call A.f()none|done"};
        String[] two = {"frame row;|done", "frame;num|done", "frame num, unset;|done", "nload 1|done", "inc 0 2|done", "fget A.x row|done", "pick 0 a, b|a: done|b: done",
            "L: nop|a: done|frame;|M: done|handler L a M any", "done", "fget A.y num|done", "call A.g()none|done"};
        for (int i = 0; i < one.length; i++) {
            Calls c = world(0, "class P : Thing|method static f()none|room 2 3|" + one[i] + "|end|class Q : Thing|method static f()none|room 2 3|" + two[i] + "|end");
            Calls.due(one[i] + " and " + two[i], c.x.differ(0, 21, 0, 22, 3), 1);
            Calls.due("the other way", c.x.differ(0, 22, 0, 21, 3), 1);
            Calls.due("none has not the other's", c.x.differ(0, 22, 0, 21, 2), 0);
        }
    }

    private static void shrinkKeepsBoth() {
        Calls c = new Calls();
        // without its field line the outcome is of the same kind with another rule; without nop it is the same
        c.trial("class B : Thing", "field private static x num = 3", "end", "class A : Thing", "method static f()num", "room 2 0", "nop",
            "sget B.x num", "ndone", "end", "run A.f()num");
        Calls.due("outcome", c.x.outcome(0, 0, 1), 5314);
        Calls.due("shrunk", c.x.shrink(0, 0), 10);
        Calls.due("outcome", c.x.outcome(0, 0, 1), 5314);
        // without the breaks all lines behind class could go
        c.trial("final abstract class A : Thing", "method static f()num", "room 2 0", "num 1", "ndone", "end", "run A.f()num");
        Calls.due("shrunk for 1", c.x.shrink(1, 1), 7);
        Calls.due("number", c.x.outcome(1, 1, 1), 1);
        Calls.due("shrunk for 0", c.x.shrink(1, 0), 2);
        Calls.due("4 still", c.x.meets(1), 4);
        Calls.due("it finds what it found not before", c.x.finds(1, 1), 1);
    }

    private static void handlersOfBuiltIns() {
        Calls c = world(0, "class A : Thing|method static f()num|room 2 0|handler a b c Thing|a: num 1|num 0|div|b: ndone|frame;Thing|c: pop|num 3|ndone|end");
        c.call(0, 0, "A.f()num");
        c.x.step(0, 100);
        Calls.due("Thing takes all", c.x.run(0, 0, 3), 3);
    }

    private static void removedTrials() {
        Calls c = new Calls();
        c.trial("run A.f()num");
        c.trial("class Thing : Fault", "end", "run A.f()num");
        c.trial("run B.f()num");
        c.trial("class A : A", "end", "run A.f()num");
        Calls.due("least", c.x.least(), 3);
        int[] due = {50, 2, 11};
        for (int t = 0; t < 3; t++) {
            Calls.due("meets " + t, c.x.meets(t), due[t]);
        }
        Calls.due("the text behind moves", c.x.text(2, 6), 'A');
        Calls.due("its end", c.x.text(2, 29), -1);
        Calls.due("no fourth", c.x.meets(3), -1);
        Calls.due("the next one", c.trial("run C.f()num"), 3);
        Calls.due("meets", c.x.meets(3), 50);
    }

    /** Objects have the fields of the classes above first, and they are found there. */
    private static void fieldsAbove() {
        Calls c = world(0, "class C : B|field c row|field x num|method <make>()none|room 1 1|rload 0|special B.<make>()none|done|end"
            + "|class B : A, I|field static q num|field b num|method <make>()none|room 1 1|rload 0|special A.<make>()none|done|end"
            + "|class A : Thing|field a num|field x num|method <make>()none|room 1 1|rload 0|special Thing.<make>()none|done|end"
            + "|face class I : Thing, J|end|face class J : Thing|field static final x num = 6|end"
            + "|class T : Thing|method static f()none|room 3 1|new C|dup|special C.<make>()none|rstore 0|rload 0|num 1|fput A.a num|rload 0|num 2|fput B.b num|rload 0|num 3|fput C.x num"
            + "|rload 0|num 4|fput A.x num|nop|done|method static g()num|room 3 0|sget B.x num|ndone|method static h()num|room 3 0|null|fget B.x num|ndone|end");
        c.call(0, 0, "T.f()none");
        c.x.step(0, 4 + 3 * 3 - 1 + 12 + 1);
        int[] due = {1, 4, 2, 0, 3};
        for (int i = 0; i < due.length; i++) {
            Calls.due("field " + i, c.x.object(0, 1, i), due[i]);
        }
        Calls.due("fields", c.x.object(0, 1, -3), 5);
        c.call(0, 1, "T.g()num");
        c.x.step(0, 100);
        Calls.due("a face's before the parent's", c.x.run(0, 1, 3), 6);
        Calls.due("the face was started", c.x.told(0, 25, 5), 2);
        c.call(0, 1, "T.h()num");
        c.x.step(0, 100);
        Calls.due("so fget does not find the parent's", c.x.run(0, 1, 5), 55);
    }

    private static void manyWorlds() {
        Calls c = new Calls();
        for (int i = 0; i < 25; i++) {
            Calls.due("world", c.x.world(10 * i), 0);
            c.define(0, "class A : Thing", "method static f()num", "room 1 0", "num " + i, "ndone", "end");
            c.call(0, 0, "A.f()num");
            Calls.due("step", c.x.step(0, 10), 0);
            Calls.due("number", c.x.run(0, 0, 3), i);
            Calls.due("trace", c.x.trace(0, 0, 0), 4);
            Calls.due("count", c.x.done(0, 1), 1);
            Calls.due("started", c.x.started(0, 0), 21);
            Calls.due("drop", c.x.drop(0), 1);
        }
        Calls.due("steps left", c.x.count(1), 60000 - 50);
    }

    /** 58 is asked at once of what static and special name, before null; of others behind null. */
    private static void abstractAtOnce() {
        Calls c = world(1, "abstract class A : Thing|method abstract static s()none|method abstract m()none|method abstract private p()none"
            + "|method static f()none|room 1 0|static A.s()none|done|method static g()none|room 1 0|null|special A.m()none|done"
            + "|method static h()none|room 1 0|null|call A.m()none|done|method static k()none|room 1 0|null|call A.p()none|done|end");
        String[] names = {"f", "g", "h", "k"};
        int[] due = {58, 58, 0, 58};
        for (int i = 0; i < 4; i++) {
            c.call(0, 0, "A." + names[i] + "()none");
            c.x.step(0, 10);
            Calls.due("rule of " + names[i], c.x.run(0, 0, 5), due[i]);
            Calls.due("class of " + names[i], c.x.run(0, 0, 4), due[i] == 0 ? 2 : 18);
        }
        Calls.due("asked of the private one", c.asked(0, 21, "A.p()none"), -158);
        Calls.due("of the other one", c.asked(0, 21, "A.m()none"), -158);
        Calls.due("foretold", c.x.foretell(0, 21, 0, 2), 58);
        Calls.due("not that of h", c.x.foretell(0, 21, 2, 0), 6);
    }

    /** A parent that FAILED before throws ClassFault, and the class FAILED with it; thrown without a step. */
    private static void startsOfParents() {
        Calls c = world(0, "class P : Thing|field static x num = 4|method static <start>()none|room 2 0|num 1|num 0|div|pop|done|end"
            + "|class C : P|field static y num = 5|end|class U : Thing|method static f()num|room 1 0|sget P.x num|ndone"
            + "|method static g()num|room 1 0|sget C.y num|ndone|end");
        c.call(0, 0, "U.f()num");
        c.x.step(0, 10);
        Calls.due("StartFault", c.x.run(0, 0, 4), 20);
        Calls.due("P's start did three steps", c.x.run(0, 0, 1), 3);
        Calls.due("P's field has its number", c.x.fixed(0, 21, 0), 4);
        Calls.due("C is new", c.x.told(0, 22, 5), 0);
        c.call(0, 0, "U.g()num");
        c.x.step(0, 10);
        Calls.due("ClassFault", c.x.run(0, 0, 4), 11);
        Calls.due("without a step", c.x.run(0, 0, 1), 0);
        Calls.due("C FAILED", c.x.told(0, 22, 5), 3);
        Calls.due("its field has its number", c.x.fixed(0, 22, 0), 5);
        c.call(0, 0, "U.g()num");
        c.x.step(0, 10);
        Calls.due("ClassFault again", c.x.run(0, 0, 4), 11);
        Calls.due("a step that throws", c.x.run(0, 0, 1), 1);
        Calls.due("counted", c.x.done(0, 48), 1);
    }
}
