import java.util.ArrayList;
import java.util.List;

/** Each call that is refused: its answer, and that it changed nothing: all that is asked behind it is answered as without it. */
public final class RefusedCallsTest {
    private interface Act {
        int of(ClassWorks x);
    }

    private static final int[] NO_WORLDS = {-1, 2, 3, Integer.MIN_VALUE, Integer.MAX_VALUE};
    private static final int[] NO_THREADS = {-1, 3, Integer.MIN_VALUE, Integer.MAX_VALUE};
    private static final int[] NO_CLASSES = {-1, 25, 51, Integer.MIN_VALUE, Integer.MAX_VALUE};
    private static final int[] NO_TRIALS = {-1, 2, 40, Integer.MIN_VALUE, Integer.MAX_VALUE};
    private static final int[] NO_BREAKS = {-1, 256, 511, Integer.MIN_VALUE, Integer.MAX_VALUE};
    private static final int LEAST = Integer.MIN_VALUE;
    private static final int MOST = Integer.MAX_VALUE;
    private static final String CLASSES = "class A : Thing, I|field static s Thing|field n num|field static q num = 4|field r row"
        + "|method static f()num|room 3 2|new A|dup|special A.<make>()none|dup|sput A.s Thing|enter|num 2|newrow|rstore 1|frame unset, row;|L: num 8|pop|jump L"
        + "|method <make>()none|room 1 1|rload 0|special Thing.<make>()none|done"
        + "|method static w()none|room 2 0|sget A.s Thing|enter|done|method static h(num)num|room 2 1|nload 0|num 3|mul|ndone|end"
        + "|face class I : Thing|method abstract m()num|end|class Bad : Thing|method static f()none|room 1 1|nop|pop|done|end|class Lone : Gone|end";
    private static List<Integer> due;

    public static void main(String[] args) {
        newObject();
        allCalls();
        placeOfTheLatest();
        latestTold();
        inAllStates(built());
        due = state(built());
        worldCalls();
        classCalls();
        memberCalls();
        runCalls();
        objectCalls();
        toldCalls();
        differCalls();
        trialCalls();
        fullOnes();
        Calls.end();
    }

    /** Two worlds, runs in all three states, objects, what is told latest, two trials, a CALL on the tape. */
    private static ClassWorks built() {
        Calls c = new Calls();
        ClassWorks x = c.x;
        x.world(0);
        x.world(3);
        c.define(0, CLASSES.replace('|', '\n'));
        c.define(1, "class B : Thing", "end");
        x.link(0, 23);
        c.call(0, 0, "A.f()num");
        c.call(0, 2, "A.h(num)num : 7");
        x.quantum(0, 9);
        x.step(0, 30);
        c.call(0, 1, "A.w()none");
        x.step(0, 60);
        x.print(0, 22);
        x.kinds(0, 21, 3, false);
        x.reach(0, 21, 0);
        c.trial("class A : Thing", "end", "run A.f()num");
        c.trial("final abstract class A : Thing", "end", "run A.f()num");
        c.define(0, "class ?");
        c.tape("A.h(num)num : 5");
        return x;
    }

    private static void inAllStates(ClassWorks x) {
        int[] states = {1, 4, 0};
        for (int t = 0; t < 3; t++) {
            Calls.due("thread " + t, x.run(0, t, 0), states[t]);
        }
        Calls.due("objects and rows", x.run(0, 0, 10), 2);
        Calls.due("what was checked", x.checked(0, 0), 23);
        Calls.due("what was written", x.written(48), 10);
        Calls.due("kinds", x.kind(3, 20), 0);
        Calls.due("reached", x.reached(0), 2100);
        Calls.due("place", x.place(), 6);
        Calls.due("trials", x.count(0), 2);
        Calls.due("the tape", x.count(2), 15);
    }

    private static List<Integer> state(ClassWorks x) {
        List<Integer> s = new ArrayList<>();
        for (int i = 0; i < 3; i++) {
            s.add(x.count(i));
            s.add(x.classes(i));
            s.add(x.checked(0, i));
            s.add(x.started(0, i));
            s.add(x.reached(i));
            s.add(x.written(i));
        }
        s.add(x.place());
        for (int c = 20; c < 26; c++) {
            for (int what = 4; what < 7; what++) {
                s.add(x.told(0, c, what));
            }
        }
        for (int t = 0; t < 3; t++) {
            for (int what = 0; what < 10; what++) {
                s.add(x.run(0, t, what));
            }
            s.add(x.value(0, t, false, 1));
            s.add(x.value(0, t, true, 0));
        }
        for (int what = 10; what < 14; what++) {
            s.add(x.run(0, 0, what));
            s.add(x.run(1, 0, what));
        }
        for (int i = -3; i < 2; i++) {
            s.add(x.object(0, 1, i));
            s.add(x.object(0, 2, i));
        }
        s.add(x.fixed(0, 21, 0));
        s.add(x.fixed(0, 21, 2));
        for (int k = -1; k < 22; k++) {
            s.add(x.kind(2, k));
        }
        for (int i = 0; i < 12; i++) {
            s.add(x.trace(0, i, 0));
            s.add(x.done(0, i));
        }
        for (int i = 0; i < 30; i++) {
            s.add(x.text(1, i));
        }
        s.add(x.meets(0));
        s.add(x.meets(1));
        s.add(x.quantum(0, 11));
        s.add(x.quantum(1, 12));
        s.add(x.step(0, 25));
        s.add(x.run(0, 0, 1));
        s.add(x.run(0, 0, 9));
        s.add(x.call(0, 2));
        s.add(x.step(0, 40));
        s.add(x.run(0, 2, 3));
        s.add(x.count(1));
        s.add(x.world(7));
        s.add(x.drop(0));
        return s;
    }

    private static void refused(String what, int answer, Act act) {
        ClassWorks x = built();
        Calls.due(what, act.of(x), answer);
        List<Integer> now = state(x);
        for (int i = 0; i < due.size(); i++) {
            Calls.due("behind " + what + " answer " + i, now.get(i), due.get(i));
        }
    }

    private static void bad(String what, Act act) {
        refused(what, ClassWorks.BAD, act);
    }

    /** cut() and world() beside what they can take; all calls of no such world. */
    private static void worldCalls() {
        for (int n : new int[] {-1, 16, 6001, LEAST, MOST}) {
            bad("cut " + n, x -> x.cut(n));
        }
        for (int b : NO_BREAKS) {
            bad("world " + b, x -> x.world(b));
        }
        for (int w : NO_WORLDS) {
            bad("drop " + w, x -> x.drop(w));
            bad("define " + w, x -> x.define(w));
            bad("classes " + w, x -> x.classes(w));
            bad("told " + w, x -> x.told(w, 0, 0));
            bad("name " + w, x -> x.name(w, 0, 0, -1, 0));
            bad("member " + w, x -> x.member(w, 0, 0, 0));
            bad("link " + w, x -> x.link(w, 0));
            bad("checked " + w, x -> x.checked(w, 0));
            bad("call " + w, x -> x.call(w, 0));
            bad("quantum " + w, x -> x.quantum(w, 5));
            bad("halt " + w, x -> x.halt(w));
            bad("step " + w, x -> x.step(w, 5));
            bad("run " + w, x -> x.run(w, 0, 0));
            bad("started " + w, x -> x.started(w, 0));
            bad("value " + w, x -> x.value(w, 0, false, 0));
            bad("fixed " + w, x -> x.fixed(w, 21, 0));
            bad("object " + w, x -> x.object(w, 1, -1));
            bad("print " + w, x -> x.print(w, 21));
            bad("kinds " + w, x -> x.kinds(w, 21, 0, true));
            bad("foretell " + w, x -> x.foretell(w, 21, 0, 0));
            bad("asked " + w, x -> x.asked(w, 0));
            bad("trace " + w, x -> x.trace(w, 0, 0));
            bad("done " + w, x -> x.done(w, 0));
            bad("collect " + w, x -> x.collect(w));
            bad("differ " + w, x -> x.differ(w, 0, 0, 0, 0));
            bad("differ from " + w, x -> x.differ(0, 0, w, 0, 0));
            bad("reach " + w, x -> x.reach(w, 21, 0));
        }
    }

    /** All calls of no such class; what is none of a class. */
    private static void classCalls() {
        for (int c : NO_CLASSES) {
            bad("told " + c, x -> x.told(0, c, 0));
            bad("name of class " + c, x -> x.name(0, c, 0, -1, 0));
            bad("member of class " + c, x -> x.member(0, c, 0, 0));
            bad("link " + c, x -> x.link(0, c));
            bad("fixed of class " + c, x -> x.fixed(0, c, 0));
            bad("print " + c, x -> x.print(0, c));
            bad("kinds of class " + c, x -> x.kinds(0, c, 0, false));
            bad("foretell " + c, x -> x.foretell(0, c, 0, 0));
            bad("asked for class " + c, x -> x.asked(0, c));
            bad("differ " + c, x -> x.differ(0, c, 0, 0, 0));
            bad("differ from " + c, x -> x.differ(0, 0, 0, c, 0));
            bad("reach " + c, x -> x.reach(0, c, 0));
        }
        bad("print a built-in one", x -> x.print(0, 20));
        bad("kinds of a built-in one", x -> x.kinds(0, 20, 0, false));
        bad("kinds inferred of a built-in one", x -> x.kinds(0, 0, 0, true));
        bad("a class of another world", x -> x.link(1, 22));
        for (int what : new int[] {-1, 7, LEAST, MOST}) {
            bad("told what " + what, x -> x.told(0, 21, what));
            bad("member what " + what, x -> x.member(0, 21, 0, what));
        }
        for (int what : new int[] {-1, 3, LEAST, MOST}) {
            bad("checked what " + what, x -> x.checked(0, what));
        }
    }

    /** No such fields, methods, kinds and bytes of names. */
    private static void memberCalls() {
        for (int k : new int[] {-2, 4, LEAST, MOST}) {
            bad("name of field " + k, x -> x.name(0, 21, 0, k, 0));
            bad("name of method " + k, x -> x.name(0, 21, 1, k, 0));
        }
        for (int k : new int[] {-1, 4, LEAST, MOST}) {
            for (int what = 0; what < 7; what++) {
                int asked = what;
                bad("member " + k + " what " + what, x -> x.member(0, 21, k, asked));
            }
            bad("kinds of method " + k, x -> x.kinds(0, 21, k, false));
            bad("inferred of method " + k, x -> x.kinds(0, 21, k, true));
            bad("reach method " + k, x -> x.reach(0, 21, k));
            bad("fixed field " + k, x -> x.fixed(0, 21, k));
        }
        for (int kind : new int[] {-1, 2, LEAST, MOST}) {
            bad("name of kind " + kind, x -> x.name(0, 21, kind, 0, 0));
            bad("name of the class by kind " + kind, x -> x.name(0, 21, kind, -1, 0));
        }
        for (int i : new int[] {-1, 1, LEAST, MOST}) {
            bad("byte " + i + " of the class", x -> x.name(0, 21, 0, -1, i));
            bad("byte " + i + " of a field", x -> x.name(0, 21, 0, 0, i));
            bad("byte " + i + " of a method", x -> x.name(0, 21, 1, 0, i));
        }
        bad("kinds without a body", x -> x.kinds(0, 22, 0, false));
        bad("inferred without a body", x -> x.kinds(0, 22, 0, true));
        bad("fixed, but not static", x -> x.fixed(0, 21, 1));
        bad("fixed, but not static", x -> x.fixed(0, 21, 3));
    }

    /** No such threads, quanta, steps and whats of runs; NO of what is on, and of no run. */
    private static void runCalls() {
        for (int t : NO_THREADS) {
            bad("call in thread " + t, x -> x.call(0, t));
            bad("value of thread " + t, x -> x.value(0, t, false, 0));
            bad("stack of thread " + t, x -> x.value(0, t, true, 0));
            for (int what = 0; what < 14; what++) {
                int asked = what;
                bad("run of thread " + t + " what " + what, x -> x.run(0, t, asked));
            }
        }
        refused("call of a thread that is on", ClassWorks.NO, x -> x.call(0, 0));
        refused("call of a thread that waits", ClassWorks.NO, x -> x.call(0, 1));
        for (int q : new int[] {0, -1, 201, LEAST, MOST}) {
            bad("quantum " + q, x -> x.quantum(0, q));
        }
        for (int n : new int[] {0, -1, 4001, LEAST, MOST}) {
            bad("step " + n, x -> x.step(0, n));
            bad("step where no run is " + n, x -> x.step(1, n));
        }
        refused("step without a run", ClassWorks.NO, x -> x.step(1, 5));
        refused("halt without a run", 0, x -> x.halt(1));
        for (int what : new int[] {-1, 14, LEAST, MOST}) {
            bad("run what " + what, x -> x.run(0, 0, what));
        }
        for (int i : new int[] {-1, 1, LEAST, MOST}) {
            bad("started " + i, x -> x.started(0, i));
        }
    }

    /** No such locals, places of a stack, objects, rows, fields, elements. */
    private static void objectCalls() {
        for (int i : new int[] {-1, 2, 20, LEAST, MOST}) {
            bad("local " + i, x -> x.value(0, 0, false, i));
            bad("stack " + i, x -> x.value(0, 0, true, i));
        }
        bad("a thread without frames", x -> x.value(0, 2, false, 0));
        bad("a thread without a run", x -> x.value(1, 0, false, 0));
        for (int r : new int[] {0, -1, 3, 800, 801, 4000, LEAST, MOST}) {
            for (int i = -3; i < 1; i++) {
                int asked = i;
                bad("object " + r + " " + i, x -> x.object(0, r, asked));
            }
        }
        for (int i : new int[] {-4, 2, LEAST, MOST}) {
            bad("field " + i, x -> x.object(0, 1, i));
            bad("element " + i, x -> x.object(0, 2, i));
        }
    }

    /** Beside what was written, told, foretold, traced, counted, reached. */
    private static void toldCalls() {
        for (int i : new int[] {-1, 49, LEAST, MOST}) {
            bad("written " + i, x -> x.written(i));
        }
        for (int i : new int[] {-1, 4, LEAST, MOST}) {
            bad("kind of " + i, x -> x.kind(i, 0));
            bad("how many on the stack of " + i, x -> x.kind(i, -1));
        }
        for (int k : new int[] {-2, 1, 19, 22, 39, 40, LEAST, MOST}) {
            bad("kind " + k, x -> x.kind(2, k));
        }
        for (int i : new int[] {-1, LEAST}) {
            bad("foretell " + i, x -> x.foretell(0, 21, i, 0));
            bad("trace " + i, x -> x.trace(0, i, 0));
            bad("hole " + i, x -> x.hole(i));
            refused("reached " + i, -1, x -> x.reached(i) < 0 ? -1 : 0);
        }
        for (int i : new int[] {400, MOST}) {
            refused("foretell " + i, ClassWorks.NO, x -> x.foretell(0, 21, i, 0));
            refused("trace " + i, ClassWorks.NO, x -> x.trace(0, i, 0));
            refused("hole " + i, ClassWorks.NO, x -> x.hole(i));
            refused("reached " + i, ClassWorks.NO, x -> x.reached(i));
        }
        for (int what : new int[] {-1, 3, LEAST, MOST}) {
            bad("foretell what " + what, x -> x.foretell(0, 21, 0, what));
            bad("foretell what " + what, x -> x.foretell(0, 21, MOST, what));
        }
        for (int what : new int[] {-1, 5, LEAST, MOST}) {
            bad("trace what " + what, x -> x.trace(0, 0, what));
            bad("trace what " + what, x -> x.trace(0, MOST, what));
        }
        for (int op : new int[] {-1, 62, LEAST, MOST}) {
            bad("done " + op, x -> x.done(0, op));
        }
    }

    /** No such what of differ(). */
    private static void differCalls() {
        for (int what : new int[] {-1, 4, LEAST, MOST}) {
            bad("differ what " + what, x -> x.differ(0, 21, 1, 21, what));
        }
        bad("a class of the other world", x -> x.differ(1, 22, 0, 21, 0));
        bad("a class of the other world", x -> x.differ(0, 21, 1, 22, 0));
    }

    /** No such trials, breaks, ways, lines, bytes and counts. */
    private static void trialCalls() {
        for (int t : NO_TRIALS) {
            bad("outcome of " + t, x -> x.outcome(t, 0, 0));
            bad("meets of " + t, x -> x.meets(t));
            bad("finds of " + t, x -> x.finds(t, 0));
            bad("shrink " + t, x -> x.shrink(t, 0));
            bad("change " + t, x -> x.change(t, 0, 0, 0));
            bad("text of " + t, x -> x.text(t, 0));
        }
        for (int b : NO_BREAKS) {
            bad("outcome with " + b, x -> x.outcome(0, b, 0));
            bad("finds " + b, x -> x.finds(0, b));
            bad("shrink for " + b, x -> x.shrink(0, b));
        }
        for (int what : new int[] {-1, 2, LEAST, MOST}) {
            bad("outcome what " + what, x -> x.outcome(0, 0, what));
        }
        for (int way : new int[] {-1, 4, LEAST, MOST}) {
            bad("change by " + way, x -> x.change(0, way, 0, 0));
        }
        for (int line : new int[] {-1, 2, 3, LEAST, MOST}) {
            for (int way = 0; way < 4; way++) {
                int by = way;
                bad("change " + way + " of line " + line, x -> x.change(0, by, line, 0));
            }
            bad("change 2 with line " + line, x -> x.change(0, 2, 0, line));
            bad("change 3 to line " + line, x -> x.change(0, 3, 0, line));
        }
        for (int i : new int[] {-1, 48, LEAST, MOST}) {
            bad("text " + i, x -> x.text(1, i));
        }
        for (int what : new int[] {-1, 3, LEAST, MOST}) {
            bad("count " + what, x -> x.count(what));
        }
    }

    /** "An empty TAPE, no worlds, no trials": all calls of a new object. */
    private static void newObject() {
        ClassWorks x = new ClassWorks();
        for (int w = 0; w < 3; w++) {
            int[] bad = {x.drop(w), x.define(w), x.classes(w), x.told(w, 0, 0), x.name(w, 0, 0, -1, 0), x.member(w, 0, 0, 0), x.link(w, 0), x.checked(w, 0), x.call(w, 0), x.quantum(w, 50), x.halt(w), x.step(w, 1), x.run(w, 0, 0),
                x.started(w, 0), x.value(w, 0, false, 0), x.fixed(w, 0, 0), x.object(w, 1, -1), x.print(w, 21), x.kinds(w, 21, 0, false), x.foretell(w, 0, 0, 0), x.asked(w, 0), x.trace(w, 0, 0), x.done(w, 0), x.collect(w),
                x.differ(w, 0, w, 0, 0), x.reach(w, 0, 0)};
            for (int i = 0; i < bad.length; i++) {
                Calls.due("call " + i + " of world " + w, bad[i], -1);
            }
        }
        int[] none = {x.written(0), x.kind(0, 0), x.kind(0, -1), x.outcome(0, 0, 0), x.meets(0), x.finds(0, 0), x.shrink(0, 0), x.change(0, 0, 0, 0), x.text(0, 0), x.cut(1), x.count(3)};
        for (int i = 0; i < none.length; i++) {
            Calls.due("call " + i + " without a trial", none[i], -1);
        }
        Calls.due("place", x.place(), -2);
        Calls.due("reached", x.reached(0), -2);
        Calls.due("the first hole", x.hole(0), 1);
        Calls.due("least", x.least(), 0);
        Calls.due("fewest", x.fewest(), 0);
        Calls.due("trials", x.count(0), 0);
        Calls.due("steps", x.count(1), 60000);
        Calls.due("bytes", x.count(2), 0);
        Calls.due("cut nothing", x.cut(0), 0);
        Calls.due("no line", x.trial(), -11);
        Calls.due("the TAPE's length", x.place(), 0);
        Calls.due("the first world", x.world(0), 0);
        Calls.due("no text", x.define(0), 0);
        Calls.due("taken", x.place(), -2);
    }

    /** "An object is used for at most 512 calls": the last of them is answered as the first. */
    private static void allCalls() {
        Calls c = new Calls();
        c.x.world(0);
        int calls = 1;
        String text = "class A%:Thing\nfield static x num=7\nmethod static f()num\nroom 1 0\nsget A%.x num\nndone\nend";
        int feeds = (text.replace("%", "10").length() + 19) / 20 + 1;
        for (int i = 10; i < 40; i++) {
            Calls.due("class " + i, c.define(0, text.replace("%", "" + i)), 1);
            Calls.due("call " + i, c.call(0, 0, "A" + i + ".f()num"), 0);
            Calls.due("step " + i, c.x.step(0, 9), 0);
            Calls.due("number " + i, c.x.run(0, 0, 3), 7);
            calls += feeds + 1 + 3 + 2;
        }
        while (calls < 511) {
            Calls.due("classes", c.x.classes(0), 30);
            calls++;
        }
        Calls.due("the 512th", c.x.run(0, 0, 12), 30);
        // the dearest ones
        c = new Calls();
        c.trial("class A : Thing", "method static f()num", "room 1 0", "frame ;", "L: jump L", "end", "run A.f()num");
        calls = 7;
        for (int t = 1; t < 40; t++) {
            Calls.due("one more", c.x.change(0, 2, 0, 0), t);
        }
        for (int i = 0; i < 200; i++) {
            Calls.due("cut", c.x.outcome(i % 40, i, 0), 5);
        }
        for (int i = 0; i < 50; i++) {
            Calls.due("finds nothing", c.x.finds(i % 40, i), 0);
            Calls.due("fewest", c.x.fewest(), 0);
            Calls.due("holes", c.x.hole(43), 59);
        }
        Calls.due("shrunk: nothing can go", c.x.shrink(39, 255), 7);
        Calls.due("least", c.x.least(), 0);
    }

    /** place(): of "the latest define(), call(), asked() or trial() that took the TAPE"; NO when it was not refused. */
    private static void placeOfTheLatest() {
        String[] bad = {" x", "  x", "   5", "    run x"};
        String[] good = {"class % : Thing\nend", "A.f()num", "Thing.f()num", "run A.f()num"};
        for (int first = 0; first < 4; first++) {
            for (int then = 0; then < 4; then++) {
                Calls c = new Calls();
                c.x.world(0);
                c.tape(bad[first]);
                Calls.due("refused " + first, take(c.x, first), -11);
                int place = first == 3 ? 9 : first == 2 ? 3 : first == 1 ? 3 : 1;
                Calls.due("its place", c.x.place(), place);
                // what does not take the TAPE does not change it
                c.tape(good[then].replace('%', 'B'));
                Calls.due("no world", c.x.define(2) + c.x.call(2, 0) + c.x.asked(2, 0) + c.x.call(0, 3) + c.x.asked(0, 21), -5);
                Calls.due("its place still", c.x.place(), place);
                int answer = take(c.x, then);
                Calls.due("taken " + then, answer == -152 ? 0 : Math.min(answer, 0), 0);
                Calls.due("no place", c.x.place(), -2);
                c.tape(bad[then]);
                if (then == 1) {
                    Calls.due("the thread is on", c.x.call(0, 0), -2);
                    Calls.due("no place", c.x.place(), -2);
                    c.x.halt(0);
                }
                Calls.due("refused " + then, take(c.x, then), -11);
                Calls.due("a place again", c.x.place(), then == 3 ? 9 : then == 2 ? 3 : then == 1 ? 3 : 1);
            }
        }
    }

    private static int take(ClassWorks x, int way) {
        return way == 0 ? x.define(0) : way == 1 ? x.call(0, 0) : way == 2 ? x.asked(0, 0) : x.trial();
    }

    /** written(), kind(), reached(): of the latest print(), kinds(), reach(), of whatever world. */
    private static void latestTold() {
        Calls c = new Calls();
        c.x.world(0);
        c.x.world(0);
        c.define(0, "class A : Thing", "method static f(num)none", "room 1 1", "static A.g()none", "done", "method static g()none", "room 0 0", "done", "end");
        c.define(1, "face class B : Thing", "method static f(row, num)none", "room 1 3", "null", "pop", "done", "end");
        for (int round = 0; round < 2; round++) {
            c.x.print(0, 21);
            c.x.kinds(0, 21, 0, round == 0);
            c.x.reach(0, 21, 0);
            Calls.due("A is written", c.x.written(0), 'c');
            Calls.due("its kinds", c.x.kind(1, 0), 0);
            Calls.due("no local 1", c.x.kind(1, 1), -1);
            Calls.due("two instructions", c.x.kind(2, 0), -1);
            Calls.due("what it reaches", c.x.reached(1), 2101);
            c.x.print(1, 21);
            c.x.kinds(1, 21, 0, round == 0);
            c.x.reach(1, 21, 0);
            Calls.due("B is written", c.x.written(0), 'f');
            Calls.due("its kinds", c.x.kind(2, 0), 1);
            Calls.due("its locals", c.x.kind(2, 2), 3);
            Calls.due("it reaches itself", c.x.reached(1), -2);
        }
        // linking checks A, but tells no KINDS; nor do differ() and foretell() write or reach
        Calls.due("A links", c.x.link(0, 21), 0);
        c.x.differ(0, 21, 1, 21, 3);
        c.x.foretell(0, 21, 0, 0);
        Calls.due("its kinds", c.x.kind(2, 0), 1);
        Calls.due("three", c.x.kind(3, 0), -1);
        c.x.drop(1);
        c.x.drop(0);
        Calls.due("they stay", c.x.written(0), 'f');
        Calls.due("they stay", c.x.kind(1, 20), 2);
        Calls.due("they stay", c.x.reached(0), 2100);
    }

    /** FULL: a tape, worlds, steps, trials; and what is asked before that. */
    private static void fullOnes() {
        Calls c = new Calls();
        for (int w = 0; w < 3; w++) {
            Calls.due("world", c.x.world(0), w);
            c.define(w, "class A : Thing", "end");
        }
        for (int b : new int[] {0, 1, 255}) {
            Calls.due("a fourth world", c.x.world(b), ClassWorks.FULL);
        }
        for (int b : NO_BREAKS) {
            Calls.due("a fourth world with " + b, c.x.world(b), ClassWorks.BAD);
        }
        for (int w = 0; w < 3; w++) {
            Calls.due("they are as they were", c.x.classes(w), 1);
        }
        Calls.due("drop the middle one", c.x.drop(1), 1);
        Calls.due("its number is free", c.x.world(0), 1);
        Calls.due("without classes", c.x.classes(1), 0);
        c.x.drop(0);
        c.x.drop(2);
        Calls.due("the least free one", c.x.world(0), 0);
        Calls.due("then the next", c.x.world(0), 2);
        c = new Calls();
        for (int t = 0; t < 40; t++) {
            Calls.due("trial", c.trial("class A : Thing", "end", "run A.f()num"), t);
        }
        c.tape("run A.f()num");
        Calls.due("a 41st", c.x.trial(), ClassWorks.FULL);
        Calls.due("the tape stays", c.x.count(2), 12);
        Calls.due("place as it was", c.x.place(), ClassWorks.NO);
        for (int way = 0; way < 4; way++) {
            Calls.due("changed " + way, c.x.change(39, way, 0, 1), ClassWorks.FULL);
            Calls.due("changed, but no line", c.x.change(39, way, 2, 1), ClassWorks.BAD);
        }
        Calls.due("how many", c.x.count(0), 40);
        Calls.due("its last byte", c.x.text(39, 32), 10);
        Calls.due("no more", c.x.text(39, 33), -1);
        c.x.cut(12);
        Calls.due("an empty TAPE, too", c.x.trial(), ClassWorks.FULL);
    }
}
