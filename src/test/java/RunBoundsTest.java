/** Section 7 and promises 6 to 8: operations, room, frames, what is thrown, turns, locks and steps, each to its edge. */
public final class RunBoundsTest {
    private static final int MIN = Integer.MIN_VALUE;
    private static final int MAX = Integer.MAX_VALUE;
    private static final String MAKE = "|method <make>()none|room 1 1|rload 0|special Thing.<make>()none|done";

    public static void main(String[] args) {
        callsInOneLine();
        numbersOfCalls();
        resultsOfRuns();
        beginAnew();
        sums();
        quotients();
        shifts();
        jumps();
        picks();
        rows();
        roomOfObjects();
        roomOfElements();
        nullFirst();
        castsAndIs();
        localsOfFrames();
        deepFrames();
        handlersTakeWhat();
        spansOfHandlers();
        stackOfHandlers();
        rulesOfThrown();
        stepsOfACall();
        stepsOfTheHouse();
        quantumOfTurns();
        turnsGoRound();
        turnOfANewRun();
        locksByThread();
        locksOfFaults();
        halts();
        worldsAreNew();
        valuesTold();
        valuesOfFields();
        stacksOfFrames();
        builtInMakes();
        Calls.end();
    }

    private static Calls world(String told) {
        Calls c = new Calls();
        c.x.world(0);
        Calls.due(told, Math.min(c.define(0, told.replace('|', '\n')), 1), 1);
        return c;
    }

    /** A class A with a static method f of this result and these lines. */
    private static Calls ran(String result, String lines) {
        Calls c = world("class A : Thing|field x num|field r Thing|field static s row|field static t Thing" + MAKE + "|method static f()" + result + "|room 9 9|" + lines + "|end");
        Calls.due(lines, c.call(0, 0, "A.f()" + result), 0);
        Calls.due(lines, c.x.step(0, 4000), 0);
        return c;
    }

    private static void number(int due, String lines) {
        Calls c = ran("num", lines + "|ndone");
        Calls.due("how " + lines, c.x.run(0, 0, 0), 0);
        Calls.due("a number " + lines, c.x.run(0, 0, 2), 1);
        Calls.due(lines, c.x.run(0, 0, 3), due);
    }

    private static void fails(int cls, int rule, String lines) {
        Calls c = ran("num", lines + "|num 1|ndone");
        Calls.due("how " + lines, c.x.run(0, 0, 0), 2);
        Calls.due("class " + lines, c.x.run(0, 0, 4), cls);
        Calls.due("rule " + lines, c.x.run(0, 0, 5), rule);
        Calls.due("nothing " + lines, c.x.run(0, 0, 2), 0);
        Calls.due("no number " + lines, c.x.run(0, 0, 3), 0);
        Calls.due("no frame " + lines, c.x.run(0, 0, 6), 0);
    }

    /** A CALL "in one line (others have no words)"; the PLACE; then the thread has no run. */
    private static void callsInOneLine() {
        String six = "num,num,num,num,num,num";
        String[] good = {"A.f()num", "A.f()none", "A.f()row", "A.f()Gone", "#|  |A.f()num # x||", "A.f(num)num:1", "A . f ( num , num ) A : 1 , -2", "Gone.f()num", "A.run()num", "A.num()num",
            "A.f(" + six + ")num : 1, 2, 3, 4, 5, 6"};
        for (String one : good) {
            Calls c = world("class A : Thing|end");
            Calls.due(one, c.call(0, 1, one.replace('|', '\n')), 0);
            Calls.due("place of " + one, c.x.place(), -2);
            Calls.due("tape behind " + one, c.x.count(2), 0);
            Calls.due("on " + one, c.x.run(0, 1, 0), 1);
            Calls.due("frames " + one, c.x.run(0, 1, 6), 0);
            Calls.due("steps " + one, c.x.run(0, 1, 1), 0);
        }
        String[] bad = {"^", "^5", "run ^A.f()num", "A^", "A ^f()num", "A.^5()num", "A.^<make>()none", "A.^<start>()none", "A.f ^num", "A.f(^", "A.f(num^", "A.f(^row)num : 1",
            "A.f(^A)num : 1", "A.f(^none)num", "A.f(num,^)num : 1", "A.f()^", "A.f()^any", "A.f()^null", "A.f()^5", "A.f()num ^:", "A.f()num ^: 1", "A.f()num ^x", "A.f(num)num^", "A.f(num)num :^",
            "A.f(num)num : ^x", "A.f(num)num : 1 ^2", "A.f(num)num : 1^, 2", "A.f(num,num)num : 1^", "A.f(num,num)num : 1,^", "A.f(num,num)num : 1 ^: 2", "A.f(num)num ^, 1", "A.f(num)num : ^2147483648",
            "A.f(num)num : ^-2147483649", "A.f(" + six + ",^num)num : 1, 2, 3, 4, 5, 6, 7", "A.f(" + six + ",^num)num", "A.f(" + six + ",^row)num", "A.f()num|^A.f()num", "A.f()num||#|  ^x", "A.f()num|^@",
            "^num.f()num", "^none.f()num", "^unset.f()num", "^any.f()num", "A.f()num ^@", "^@", "A^:f()num"};
        for (String one : bad) {
            Calls c = world("class A : Thing|method static f()num|room 1 0|num 1|ndone|end");
            c.call(0, 1, "A.f()num");
            c.x.step(0, 9);
            Calls.due("ended before", c.x.run(0, 1, 0), 0);
            Calls.due(one, c.call(0, 1, one.replace("^", "").replace('|', '\n')), -11);
            Calls.due("place of " + one, c.x.place(), one.indexOf('^'));
            Calls.due("tape behind " + one, c.x.count(2), 0);
            int[] due = {-2, 0, 0, 0, -2, 0, 0, -2, -2, -2};
            for (int what = 0; what < 10; what++) {
                Calls.due("run " + what + " behind " + one, c.x.run(0, 1, what), due[what]);
            }
            Calls.due("step behind " + one, c.x.step(0, 1), -2);
        }
    }

    /** "as many NUMBERS as arguments": six, at the ends of what a number can be. */
    private static void numbersOfCalls() {
        for (int n : new int[] {0, 1, -1, MAX, MIN}) {
            Calls c = world("class A : Thing|method static f(num,num,num,num,num,num)num|room 1 6|nload 5|ndone|end");
            c.call(0, 2, "A.f(num,num,num,num,num,num)num : 1, 2, 3, 4, 5, " + n);
            c.x.step(0, 1);
            for (int i = 0; i < 5; i++) {
                Calls.due("argument " + i, c.x.value(0, 2, false, i), i + 1);
            }
            c.x.step(0, 1);
            Calls.due("the sixth", c.x.run(0, 2, 3), n);
        }
    }

    private static void ends(int kind, int number, int cls, String result, String lines) {
        Calls c = ran(result, lines);
        int[] due = {0, 0, kind, number, cls, 0, 0, -2, -2, -2};
        for (int what = 0; what < 10; what++) {
            if (what != 1) {
                Calls.due(lines + " " + what, c.x.run(0, 0, what), due[what]);
            }
        }
    }

    /** run(): "2 what it ended with: 0 nothing, 1 a number, 2 null, 3 a row, 4 an object, 3 that number (else 0), 4 the class .. (NO)". */
    private static void resultsOfRuns() {
        ends(0, 0, -2, "none", "done");
        ends(1, 7, -2, "num", "num 7|ndone");
        ends(1, 0, -2, "num", "num 0|ndone");
        ends(1, MIN, -2, "num", "num -2147483648|ndone");
        ends(2, 0, -2, "row", "null|rdone");
        ends(2, 0, -2, "Thing", "null|rdone");
        ends(3, 0, -2, "row", "num 5|newrow|rdone");
        ends(3, 0, -2, "Thing", "num 5|newrow|rdone");
        ends(4, 0, 21, "Thing", "new A|dup|special A.<make>()none|rdone");
        ends(4, 0, 0, "Thing", "new Thing|dup|special Thing.<make>()none|rdone");
        ends(4, 0, 3, "Fault", "handler a b c any|a: num 1|num 0|div|b: null|rdone|frame;Fault|c: rdone");
        Calls c = ran("none", "new ZeroFault|dup|special ZeroFault.<make>()none|throw");
        Calls.due("an object that was made is thrown", c.x.run(0, 0, 4), 3);
        Calls.due("it has no rule", c.x.run(0, 0, 5), 0);
        Calls.due("FAILED", c.x.run(0, 0, 0), 2);
    }

    /** A run that is begun in a thread that ended has nothing of the one before. */
    private static void beginAnew() {
        Calls c = world("class A : Thing|method static bad()num|room 2 0|sget Gone.x num|ndone|method static f(num)num|room 2 4|num 9|nstore 3|nload 0|ndone"
            + "|method static g(num)num|room 2 4|nop|nload 0|ndone|end");
        c.call(0, 0, "A.bad()num");
        c.x.step(0, 9);
        int[] failed = {2, 1, 0, 0, 11, 50, 0, -2, -2, -2};
        for (int what = 0; what < 10; what++) {
            Calls.due("FAILED " + what, c.x.run(0, 0, what), failed[what]);
        }
        c.call(0, 0, "A.f(num)num : 6");
        int[] on = {1, 0, 0, 0, -2, 0, 0, -2, -2, -2};
        for (int what = 0; what < 10; what++) {
            Calls.due("begun " + what, c.x.run(0, 0, what), on[what]);
        }
        c.x.step(0, 2);
        Calls.due("9 is local 3", c.x.value(0, 0, false, 3), 9);
        c.x.step(0, 9);
        int[] ended = {0, 4, 1, 6, -2, 0, 0, -2, -2, -2};
        for (int what = 0; what < 10; what++) {
            Calls.due("ended " + what, c.x.run(0, 0, what), ended[what]);
        }
        c.call(0, 0, "A.g(num)num : 6");
        c.x.step(0, 1);
        Calls.due("0 behind the arguments", c.x.value(0, 0, false, 3), 0);
        Calls.due("at instruction", c.x.run(0, 0, 9), 1);
        Calls.due("steps", c.x.run(0, 0, 1), 1);
        c.x.step(0, 9);
        c.call(0, 0, "A.bad()num");
        c.x.step(0, 9);
        Calls.due("no number of the one before", c.x.run(0, 0, 3), 0);
        Calls.due("nothing", c.x.run(0, 0, 2), 0);
    }

    /** "add, sub, mul, neg, inc wrap". */
    private static void sums() {
        number(MIN, "num 2147483647|num 1|add");
        number(MAX, "num -2147483648|num -1|add");
        number(MAX, "num 2147483646|num 1|add");
        number(MAX, "num -2147483648|num 1|sub");
        number(MIN, "num 2147483647|num -1|sub");
        number(-5, "num 2|num 7|sub");
        number(0, "num 65536|num 65536|mul");
        number(MIN, "num -2147483648|num -1|mul");
        number(1, "num 2147483647|num 2147483647|mul");
        number(MIN, "num -2147483648|neg");
        number(-MAX, "num 2147483647|neg");
        number(0, "num 0|neg");
        number(MIN, "num 2147483647|nstore 8|inc 8 1|nload 8");
        number(MAX, "num -2147483648|nstore 8|inc 8 -1|nload 8");
        number(-1, "num 2147483647|nstore 8|inc 8 -2147483648|nload 8");
        number(0b1000, "num 12|num 10|and");
        number(0b1110, "num 12|num 10|or");
        number(0b0110, "num 12|num 10|xor");
        number(MIN, "num -1|num -2147483648|and");
        number(-1, "num 2147483647|num -2147483648|or");
        number(MAX, "num -1|num -2147483648|xor");
    }

    /** "div is cut towards 0, rem has the left one's sign, both wrap, and ZeroFault for 0". */
    private static void quotients() {
        int[][] due = {{7, 2, 3, 1}, {-7, 2, -3, -1}, {7, -2, -3, 1}, {-7, -2, 3, -1}, {6, 3, 2, 0}, {-6, 3, -2, 0}, {1, 2, 0, 1}, {-1, 2, 0, -1}, {0, -5, 0, 0},
            {MIN, -1, MIN, 0}, {MIN, 1, MIN, 0}, {MAX, -1, -MAX, 0}, {MIN, MIN, 1, 0}, {MAX, MIN, 0, MAX}, {MIN, MAX, -1, -1}};
        for (int[] one : due) {
            number(one[2], "num " + one[0] + "|num " + one[1] + "|div");
            number(one[3], "num " + one[0] + "|num " + one[1] + "|rem");
        }
        for (int n : new int[] {0, 1, -1, MIN, MAX}) {
            fails(3, 0, "num " + n + "|num 0|div|pop");
            fails(3, 0, "num " + n + "|num 0|rem|pop");
        }
        number(0, "num 0|num 5|add|num 0|mul");
    }

    /** "shl, shr by the lowest five bits, shr with the sign". */
    private static void shifts() {
        int[][] due = {{1, 0, 1, 1}, {1, 1, 2, 0}, {1, 31, MIN, 0}, {1, 32, 1, 1}, {1, 33, 2, 0}, {1, -1, MIN, 0}, {-1, 31, MIN, -1}, {-1, 1, -2, -1}, {MIN, 31, 0, -1}, {MIN, 1, 0, -1073741824},
            {MAX, 1, -2, 1073741823}, {5, 63, MIN, 0}, {5, 64, 5, 5}, {5, MIN, 5, 5}, {5, MAX, MIN, 0}};
        for (int[] one : due) {
            number(one[2], "num " + one[0] + "|num " + one[1] + "|shl");
            number(one[3], "num " + one[0] + "|num " + one[1] + "|shr");
        }
    }

    private static void jump(boolean due, String lines) {
        number(due ? 1 : 0, lines + " L|num 0|ndone|frame;|L: num 1");
    }

    /** if0 .. ifle and eq .. le at MIN, -1, 0, 1, MAX; isnull .. other of null, the same, another. */
    private static void jumps() {
        int[] numbers = {MIN, -1, 0, 1, MAX};
        for (int v : numbers) {
            jump(v == 0, "num " + v + "|if0");
            jump(v != 0, "num " + v + "|ifn0");
            jump(v < 0, "num " + v + "|ifl");
            jump(v >= 0, "num " + v + "|ifge");
            jump(v > 0, "num " + v + "|ifg");
            jump(v <= 0, "num " + v + "|ifle");
            for (int w : numbers) {
                String two = "num " + v + "|num " + w + "|";
                jump(v == w, two + "eq");
                jump(v != w, two + "ne");
                jump(v < w, two + "lt");
                jump(v >= w, two + "ge");
                jump(v > w, two + "gt");
                jump(v <= w, two + "le");
            }
        }
        jump(true, "null|isnull");
        jump(false, "null|notnull");
        jump(false, "num 0|newrow|isnull");
        jump(true, "num 0|newrow|notnull");
        String two = "num 0|newrow|rstore 1|num 0|newrow|rstore 2|";
        String[] values = {"null", "rload 1", "rload 2"};
        for (int i = 0; i < 3; i++) {
            for (int j = 0; j < 3; j++) {
                jump(i == j, two + values[i] + "|" + values[j] + "|same");
                jump(i != j, two + values[i] + "|" + values[j] + "|other");
            }
        }
        String faults = "handler a b c any|a: num 0|num 0|div|b: ndone|frame;Fault|c: rstore 1|";
        jump(true, faults + "rload 1|rload 1|same");
        jump(false, faults + "rload 1|null|same");
        jump(false, faults + "rload 1|isnull");
        // one of the machine's own is another one each time
        number(0, "handler a b c any|handler d e g any|a: num 0|num 0|div|b: ndone|frame;Fault|c: rstore 1|d: num 0|num 0|div|e: ndone|frame unset, Fault;Fault|g: rload 1|same L|num 0|ndone|frame;|L: num 1");
        // a jump back goes on where its label stands
        number(3, "num 0|nstore 1|frame unset, num;|L: inc 1 1|nload 1|num 3|lt L|nload 1");
    }

    /** "pick k L0, L1 .. Ln: to the one for v - k (which does not wrap) = 0, 1 .. n - 1, else to Ln". */
    private static void picks() {
        String three = " L, M, N|frame;|L: num 10|ndone|frame;|M: num 11|ndone|frame;|N: num 12";
        int[][] due = {{5, 5, 10}, {6, 5, 11}, {7, 5, 12}, {8, 5, 12}, {4, 5, 12}, {MIN, 5, 12}, {MAX, 5, 12}, {MIN, MIN, 10}, {MIN + 1, MIN, 11}, {MIN + 2, MIN, 12}, {MAX, MIN, 12}, {-1, MIN, 12},
            {MAX, MAX, 10}, {MIN, MAX, 12}, {MAX - 1, MAX, 12}, {-1, -2, 11}, {0, -2, 12}, {-2, -2, 10}, {-3, -2, 12}};
        for (int[] one : due) {
            number(one[2], "num " + one[0] + "|pick " + one[1] + three);
        }
        // each pick has its own LABELS
        String two = "frame;|A: num 0|pick 5 B, C, D|frame ;|C: num 1|ndone|frame;|B: num 2|ndone|frame num, row; row, null|E: jump E|frame;|D: num 7|pick 6 B, F, C|frame;|F: num 8|pick 8 G, B|frame;|G: num 4";
        number(4, two);
        number(2, two.replace("num 8", "num 9"));
        number(1, two.replace("num 0", "num 6"));
        number(2, two.replace("num 0", "num 5"));
        number(1, two.replace("num 7", "num 8").replace("F: num 8", "F: num 0"));
        number(2, two.replace("D: num 7", "D: num 6"));
        for (int v : new int[] {MIN, -1, 0, 1, MAX}) {
            number(10, "num " + v + "|pick 0 L|frame;|L: num 10");
            number(v == 0 ? 11 : 10, "num " + v + "|pick 0 M, L|frame;|L: num 10|ndone|frame;|M: num 11");
        }
    }

    /** newrow: below 0, 0, 300, 301; get and put at both ends; size. */
    private static void rows() {
        fails(5, 0, "num -1|newrow|pop");
        fails(5, 0, "num -2147483648|newrow|pop");
        fails(9, 0, "num 301|newrow|pop");
        fails(9, 0, "num 2147483647|newrow|pop");
        number(0, "num 0|newrow|size");
        number(1, "num 1|newrow|size");
        number(300, "num 300|newrow|size");
        for (int i : new int[] {0, 1, 299}) {
            number(0, "num 300|newrow|num " + i + "|get");
            number(MIN, "num 300|newrow|dup|num " + i + "|num -2147483648|put|num " + i + "|get");
        }
        for (int i : new int[] {-1, 300, MIN, MAX}) {
            fails(4, 0, "num 300|newrow|num " + i + "|get|pop");
            fails(4, 0, "num 300|newrow|num " + i + "|num 1|put");
        }
        fails(4, 0, "num 0|newrow|num 0|get|pop");
        fails(4, 0, "num 0|newrow|num 0|num 1|put");
        Calls c = ran("none", "num 3|newrow|dup|sput A.s row|num 1|num 8000|put|num 2|newrow|dup|num 0|num 9|put|pop|done");
        int[] first = {0, 8000, 0};
        for (int i = 0; i < 3; i++) {
            Calls.due("element " + i, c.x.object(0, 1, i), first[i]);
        }
        Calls.due("no fourth", c.x.object(0, 1, 3), -1);
        Calls.due("of the second", c.x.object(0, 2, 0), 9);
        Calls.due("no class", c.x.object(0, 1, -1), -2);
        Calls.due("its elements", c.x.object(0, 1, -3), 3);
        Calls.due("objects and rows", c.x.run(0, 0, 10), 2);
        Calls.due("fields and elements", c.x.run(0, 0, 11), 5);
    }

    private static final String ROOM = "class A : Thing|field static r row|method static rows(num,num)none|room 2 2|frame num, num;|L: nload 1|newrow|pop|inc 0 -1|nload 0|ifg L|done"
        + "|method static keep(num)none|room 2 1|nload 0|newrow|dup|sput A.r row|num 0|get|pop|done"
        + "|method static small(num)none|room 2 1|frame num;|L: new Thing|pop|inc 0 -1|nload 0|ifg L|done"
        + "|method static big(num)none|room 2 1|frame num;|L: new B|pop|inc 0 -1|nload 0|ifg L|done|end|class B : C|field a num|field b row|field static q num|end|class C : Thing|field c num|end";

    private static void call(Calls c, String call, int how) {
        Calls.due(call, c.call(0, 0, call), 0);
        Calls.due(call, c.x.step(0, 4000), 0);
        Calls.due("how " + call, c.x.run(0, 0, 0), how);
        if (how == 2) {
            Calls.due("RoomFault " + call, c.x.run(0, 0, 4), 9);
        }
    }

    /** RoomFault: "an object or row more than 800 that are there in the world". */
    private static void roomOfObjects() {
        Calls c = world(ROOM);
        call(c, "A.rows(num,num)none : 500, 0", 0);
        call(c, "A.small(num)none : 299", 0);
        Calls.due("799", c.x.run(0, 0, 10), 799);
        call(c, "A.small(num)none : 1", 0);
        Calls.due("800", c.x.run(0, 0, 10), 800);
        Calls.due("no fields", c.x.run(0, 0, 11), 0);
        Calls.due("the last one's class", c.x.object(0, 800, -1), 0);
        Calls.due("a row before", c.x.object(0, 500, -1), -2);
        Calls.due("none behind it", c.x.object(0, 801, -1), -1);
        call(c, "A.small(num)none : 1", 2);
        call(c, "A.rows(num,num)none : 1, 0", 2);
        Calls.due("800 still", c.x.run(0, 0, 10), 800);
        // a world for itself
        c.x.world(0);
        Calls.due("another world", c.x.run(1, 0, 10), 0);
        Calls.due("all are collected", c.x.collect(0), 800);
        Calls.due("none", c.x.run(0, 0, 10), 0);
        Calls.due("the last one is there no more", c.x.object(0, 800, -1), -1);
        call(c, "A.small(num)none : 1", 0);
        Calls.due("the least free number", c.x.object(0, 1, -1), 0);
        Calls.due("no other", c.x.object(0, 2, -1), -1);
    }

    /** "or more than 4000 fields of objects and elements of rows". */
    private static void roomOfElements() {
        Calls c = world(ROOM);
        call(c, "A.rows(num,num)none : 13, 300", 0);
        Calls.due("3900", c.x.run(0, 0, 11), 3900);
        call(c, "A.rows(num,num)none : 1, 101", 2);
        Calls.due("3900 still", c.x.run(0, 0, 11), 3900);
        call(c, "A.rows(num,num)none : 1, 98", 0);
        call(c, "A.big(num)none : 1", 2);
        call(c, "A.rows(num,num)none : 1, 2", 0);
        Calls.due("4000", c.x.run(0, 0, 11), 4000);
        call(c, "A.rows(num,num)none : 1, 1", 2);
        call(c, "A.rows(num,num)none : 3, 0", 0);
        call(c, "A.small(num)none : 3", 0);
        call(c, "A.big(num)none : 1", 2);
        Calls.due("4000", c.x.run(0, 0, 11), 4000);
        Calls.due("21", c.x.run(0, 0, 10), 21);
        c.x.collect(0);
        call(c, "A.big(num)none : 799", 0);
        Calls.due("fields of 799", c.x.run(0, 0, 11), 799 * 3);
        Calls.due("fields of one", c.x.object(0, 799, -3), 3);
        // what is made in room that was used is 0
        c.x.collect(0);
        call(c, "A.keep(num)none : 300", 0);
        for (int i = 0; i < 300; i += 23) {
            Calls.due("element " + i, c.x.object(0, 1, i), 0);
        }
    }

    /** "the finding (6), the start (5), null (NullFault), then as here". */
    private static void nullFirst() {
        fails(2, 0, "null|num -1|get|pop");
        fails(2, 0, "null|num -1|num 1|put");
        fails(2, 0, "null|size|pop");
        fails(2, 0, "null|fget A.x num|pop");
        fails(2, 0, "null|num 1|fput A.x num");
        fails(2, 0, "null|null|fput A.r Thing");
        fails(12, 51, "null|fget A.y num|pop");
        fails(13, 52, "null|call A.g()none");
        fails(11, 50, "null|call Gone.g()none");
        fails(2, 0, "null|enter");
        fails(2, 0, "null|leave");
        fails(2, 0, "null|throw|frame;|nop");
        number(0, "null|is A");
        number(0, "null|is Gone");
        number(4, "null|cast A|pop|num 4");
        number(4, "null|cast Gone|pop|num 4");
        number(5, "null|rstore 1|rload 1|isnull L|num 4|ndone|frame;|L: num 5");
    }

    private static void fails(int cls, String lines) {
        fails(cls, 0, lines);
    }

    /** is: "an object's class is below C (a row's: Thing alone)"; cast: CastFault where is would be 0. */
    private static void castsAndIs() {
        String lib = "face class K : Thing|end|face class I : Thing, K|end|class P : Thing, I" + MAKE + "|end|class Q : P|method <make>()none|room 1 1|rload 0|special P.<make>()none|done|end"
            + "|class N : Gone|end|class A : Thing|method static f()num|room 3 0|%|ndone|end";
        String[] classes = {"Thing", "P", "Q", "I", "K", "A", "N", "Fault"};
        String[] values = {"null", "num 0|newrow", "new P|dup|special P.<make>()none", "new Q|dup|special Q.<make>()none", "new Thing|dup|special Thing.<make>()none"};
        String[] due = {"00000000", "10000000", "11011000", "11111000", "10000000"};
        for (int v = 0; v < values.length; v++) {
            for (int k = 0; k < classes.length; k++) {
                int is = due[v].charAt(k) - '0';
                Calls c = world(lib.replace("%", values[v] + "|is " + classes[k]));
                c.call(0, 0, "A.f()num");
                c.x.step(0, 99);
                Calls.due(values[v] + " is " + classes[k], c.x.run(0, 0, 3), is);
                Calls.due("it ended " + values[v] + " is " + classes[k], c.x.run(0, 0, 2), 1);
                c = world(lib.replace("%", values[v] + "|cast " + classes[k] + "|pop|num 3"));
                c.call(0, 0, "A.f()num");
                c.x.step(0, 99);
                boolean fault = v > 0 && is == 0;
                Calls.due(values[v] + " cast " + classes[k], c.x.run(0, 0, 0), fault ? 2 : 0);
                Calls.due("CastFault of " + values[v] + " cast " + classes[k], c.x.run(0, 0, 4), fault ? 6 : -2);
                Calls.due("N is not linked by it", c.x.told(0, 25, 6), 0);
            }
        }
        fails(11, 50, "num 0|newrow|is Gone|pop");
        fails(11, 50, "num 0|newrow|cast Gone|pop");
    }

    /** "the object and the arguments in its locals, 0 and null behind". */
    private static void localsOfFrames() {
        Calls c = world("class A : Thing" + MAKE + "|method g(num,row)none|room 3 20|num 5|nstore 19|rload 2|rstore 18|num 6|nstore 3|done"
            + "|method static f()none|room 4 2|new A|dup|special A.<make>()none|rstore 0|rload 0|num 7|num 2|newrow|call A.g(num,row)none|rload 0|num 8|null|call A.g(num,row)none|done|end");
        c.call(0, 0, "A.f()none");
        c.x.step(0, 2 + 4 + 2 + 4);
        Calls.due("two frames", c.x.run(0, 0, 6), 2);
        Calls.due("g", c.x.run(0, 0, 8), 1);
        int[] first = {1, 7, 2, 0};
        for (int i = 0; i < 20; i++) {
            Calls.due("local " + i, c.x.value(0, 0, false, i), i < 4 ? first[i] : 0);
        }
        Calls.due("no more", c.x.value(0, 0, false, 20), -1);
        Calls.due("an empty stack", c.x.value(0, 0, true, 0), -1);
        c.x.step(0, 6);
        int[] last = {1, 7, 2, 6};
        for (int i = 0; i < 20; i++) {
            Calls.due("local " + i, c.x.value(0, 0, false, i), i < 4 ? last[i] : i == 18 ? 2 : i == 19 ? 5 : 0);
        }
        c.x.step(0, 1 + 4);
        Calls.due("g once more", c.x.run(0, 0, 8), 1);
        int[] second = {1, 8, 0, 0};
        for (int i = 0; i < 20; i++) {
            Calls.due("local " + i, c.x.value(0, 0, false, i), i < 4 ? second[i] : 0);
        }
        c.x.step(0, 7);
        Calls.due("back in f", c.x.run(0, 0, 6), 1);
        Calls.due("its stack", c.x.value(0, 0, true, 0), -1);
        Calls.due("its locals", c.x.value(0, 0, false, 0), 1);
        Calls.due("no third local", c.x.value(0, 0, false, 2), -1);
    }

    /** "DeepFault when 40 are there", of all four calls. */
    private static void deepFrames() {
        Calls c = world("class A : Thing|method static f(num)num|room 2 1|nload 0|if0 L|nload 0|num 1|sub|static A.f(num)num|ndone|frame num;|L: num 5|ndone|end");
        c.call(0, 0, "A.f(num)num : 39");
        c.x.step(0, 4000);
        Calls.due("40 frames", c.x.run(0, 0, 3), 5);
        c.call(0, 0, "A.f(num)num : 40");
        c.x.step(0, 4000);
        Calls.due("DeepFault", c.x.run(0, 0, 4), 8);
        Calls.due("no rule", c.x.run(0, 0, 5), 0);
        for (String op : new String[] {"call A.f(num)num", "facecall I.f(num)num", "special A.f(num)num"}) {
            c = world("face class I : Thing|method abstract f(num)num|end|class A : Thing, I" + MAKE + "|method f(num)num|room 3 2|nload 1|if0 L|rload 0|nload 1|num 1|sub|" + op
                + "|ndone|frame A, num;|L: num 5|ndone|method static go(num)num|room 3 1|new A|dup|special A.<make>()none|nload 0|call A.f(num)num|ndone|end");
            c.call(0, 0, "A.go(num)num : 38");
            c.x.step(0, 4000);
            Calls.due("40 frames by " + op, c.x.run(0, 0, 3), 5);
            c.call(0, 0, "A.go(num)num : 39");
            c.x.step(0, 4000);
            Calls.due("DeepFault by " + op, c.x.run(0, 0, 4), 8);
        }
        // null, and what an object is asked, come before that: the object was made before, as a <make> wants a frame, too
        String full = "face class I : Thing|method abstract m()num|end|class N : Thing" + MAKE + "|end|abstract class U : Thing" + MAKE + "|method abstract w()num|method v()num|room 1 1|num 2|ndone|end|class V : U" + MAKE.replace("Thing", "U") + "|end"
            + "|class K : Thing|field static o Thing|method static n()none|room 2 0|new N|dup|special N.<make>()none|sput K.o Thing|done|method static v()none|room 2 0|new V|dup|special V.<make>()none|sput K.o Thing|done|end"
            + "|class A : Thing|method static f(num)num|room 2 1|nload 0|if0 L|nload 0|num 1|sub|static A.f(num)num|ndone|frame num;|L: %|ndone|end";
        String[] lasts = {"null|call U.v()num", "null|facecall I.m()num", "sget K.o Thing|cast N|facecall I.m()num", "sget K.o Thing|cast V|call U.w()num", "sget K.o Thing|cast V|call U.v()num"};
        int[] faults = {2, 2, 15, 18, 8};
        int[] rules = {0, 0, 59, 58, 0};
        for (int i = 0; i < lasts.length; i++) {
            c = world(full.replace("%", lasts[i]));
            c.call(0, 0, i == 2 ? "K.n()none" : "K.v()none");
            c.x.step(0, 99);
            c.call(0, 0, "A.f(num)num : 39");
            c.x.step(0, 4000);
            Calls.due("fault of " + lasts[i], c.x.run(0, 0, 4), faults[i]);
            Calls.due("rule of " + lasts[i], c.x.run(0, 0, 5), rules[i]);
        }
        // it can be taken by the frame that called
        c = world("class A : Thing|method static f(num)num|room 2 1|handler a b h DeepFault|a: inc 0 1|nload 0|static A.f(num)num|b: ndone|frame num;DeepFault|h: pop|nload 0|ndone|end");
        c.call(0, 0, "A.f(num)num : 0");
        c.x.step(0, 4000);
        Calls.due("the 40th frame takes it", c.x.run(0, 0, 3), 40);
    }

    /** "the first handler in whose span the instruction stands, and whose class is any, or is there and above the thrown one's". */
    private static void handlersTakeWhat() {
        String throwing = "a: num 1|num 0|div|b: ndone|frame;Thing|c: pop|num 7|ndone|frame;Thing|d: pop|num 8|ndone|";
        String[] takes = {"any", "ZeroFault", "Fault", "Thing"};
        for (String one : takes) {
            number(7, "handler a b c " + one + "|" + throwing + "frame;|num 1");
            number(7, "handler a b c " + one + "|handler a b d any|" + throwing + "frame;|num 1");
            number(8, "handler a b d " + one + "|handler a b c any|" + throwing + "frame;|num 1");
        }
        for (String one : new String[] {"NullFault", "LinkFault", "A"}) {
            Calls c = ran("num", "handler a b c " + one + "|" + throwing + "frame;|num 1|ndone");
            Calls.due("not by " + one, c.x.run(0, 0, 4), 3);
            number(8, "handler a b c " + one + "|handler a b d any|" + throwing + "frame;|num 1");
        }
        // a class that is not there takes nothing, and is no fault
        number(8, "handler a b e Gone|handler a b d any|" + throwing + "frame;Gone|e: pop|num 1");
        Calls c = ran("num", "handler a b e Gone|" + throwing + "frame;Gone|e: pop|num 1|ndone");
        Calls.due("none takes it", c.x.run(0, 0, 4), 3);
        // a face takes what is below it; one that is below the thrown one's class does not
        String own = "face class I : Thing|end|class E : Fault, I|method <make>()none|room 1 1|rload 0|special Fault.<make>()none|done|end|class D : E|end|class A : Thing|method static f()num|room 2 0"
            + "|handler a b c D|handler a b d I|a: new E|dup|special E.<make>()none|throw|frame;|b: num 1|ndone|frame;D|c: pop|num 7|ndone|frame;I|d: pop|num 8|ndone|end";
        c = world(own);
        c.call(0, 0, "A.f()num");
        c.x.step(0, 99);
        Calls.due("by its face", c.x.run(0, 0, 3), 8);
        // the class of a handler is looked at when it is thrown: it may come later
        c = world("class A : Thing|method static f()num|room 2 0|handler a b c Late|a: num 1|num 0|div|b: ndone|frame;Late|c: pop|num 7|ndone|end");
        c.call(0, 0, "A.f()num");
        c.x.step(0, 99);
        Calls.due("not there", c.x.run(0, 0, 0), 2);
        c.goodIn(0, 1, "class Late : Gone|end");
        c.call(0, 0, "A.f()num");
        c.x.step(0, 99);
        Calls.due("there, but not above", c.x.run(0, 0, 4), 3);
        Calls.due("it is not linked", c.x.told(0, 22, 6), 0);
    }

    /** "in whose span the instruction stands": from its first LABEL on, before its second; in the frame that called, the call. */
    private static void spansOfHandlers() {
        for (int at = 0; at < 4; at++) {
            for (int from = 0; from < 4; from++) {
                for (int to = from + 1; to <= 4; to++) {
                    StringBuilder lines = new StringBuilder("handler l" + from + " l" + to + " h any|num 0|nstore 1|");
                    for (int i = 0; i < 4; i++) {
                        lines.append("l").append(i).append(i == at ? ": sget Gone.x row|pop|" : ": nop|");
                    }
                    lines.append("l4: num 1|ndone|frame unset, num;Fault|h: pop|num 2");
                    boolean taken = from <= at && at < to;
                    Calls one = ran("num", lines + "|ndone");
                    Calls.due(lines.toString(), one.x.run(0, 0, 0), taken ? 0 : 2);
                    Calls.due(lines.toString(), one.x.run(0, 0, 3), taken ? 2 : 0);
                }
            }
        }
        // in the frame that called the instruction is the call's
        Calls c = world("class A : Thing|method static g()num|room 2 0|num 1|num 0|div|ndone|method static f()num|room 2 0|handler a b h any|handler b c i any|nop|a: static A.g()num|pop|b: nop|c: num 1|ndone"
            + "|frame;Fault|h: pop|num 5|ndone|frame;Fault|i: pop|num 6|ndone|end");
        c.call(0, 0, "A.f()num");
        c.x.step(0, 99);
        Calls.due("by the handler of the call", c.x.run(0, 0, 3), 5);
        // what a handler's own lines throw is taken where they stand
        number(9, "handler a b c any|handler c d e any|a: num 1|num 0|div|b: ndone|frame;Fault|c: pop|num 1|num 0|div|d: ndone|frame;Fault|e: pop|num 9");
    }

    /** "the stack is that object alone, it goes on where it tells". */
    private static void stackOfHandlers() {
        Calls c = world("class A : Thing|field static e Fault|method static f()none|room 9 2|handler a b c any|num 4|nstore 0|a: num 5|num 6|num 7|num 1|num 0|div|pop|b: done|frame num;Fault|c: dup|sput A.e Fault|nop|pop|done|end");
        c.call(0, 0, "A.f()none");
        c.x.step(0, 8);
        Calls.due("it goes on at", c.x.run(0, 0, 9), 10);
        Calls.due("the thrown one has no number", c.x.value(0, 0, true, 0), 0);
        Calls.due("it is alone", c.x.value(0, 0, true, 1), -1);
        Calls.due("locals stay", c.x.value(0, 0, false, 0), 4);
        Calls.due("one frame", c.x.run(0, 0, 6), 1);
        c.x.step(0, 2);
        Calls.due("in a field it has none", c.x.fixed(0, 21, 0), 0);
        Calls.due("it is no object that is counted", c.x.run(0, 0, 10), 0);
        Calls.due("it can't be asked", c.x.object(0, 0, -1), -1);
        c.x.step(0, 9);
        Calls.due("it ended", c.x.run(0, 0, 2), 0);
    }

    /** "Each of the machine's own has the number of its rule, 0 where none is told; others have 0." */
    private static void rulesOfThrown() {
        fails(11, 50, "new Gone|pop");
        fails(2, "null|size|pop");
        fails(14, 0, "new AccessFault|dup|special AccessFault.<make>()none|throw|frame;|nop");
        Calls c = ran("num", "handler a b c any|a: new Gone|pop|b: num 1|ndone|frame;Fault|c: throw");
        Calls.due("thrown on it has its rule still", c.x.run(0, 0, 5), 50);
        Calls.due("its class", c.x.run(0, 0, 4), 11);
        c = ran("num", "handler a b c any|a: new Gone|pop|b: num 1|ndone|frame;Fault|c: pop|null|throw");
        Calls.due("another one", c.x.run(0, 0, 5), 0);
        Calls.due("NullFault", c.x.run(0, 0, 4), 2);
    }

    private static final String LOOP = "class A : Thing|method static f(num)num|room 1 1|frame num;|L: inc 0 -1|nload 0|ifg L|nload 0|ndone|end";

    /** step: "Up to n steps (1 .. 4000)"; 0, 1; what is done with the last step. */
    private static void stepsOfACall() {
        Calls c = world(LOOP);
        Calls.due("no run", c.x.step(0, 1), -2);
        c.call(0, 0, "A.f(num)num : 1");
        for (int i = 1; i < 5; i++) {
            Calls.due("step " + i, c.x.step(0, 1), 1);
            Calls.due("steps " + i, c.x.run(0, 0, 1), i);
            Calls.due("left", c.x.count(1), 60000 - i);
        }
        Calls.due("the last one", c.x.step(0, 1), 0);
        Calls.due("it ended", c.x.run(0, 0, 0), 0);
        Calls.due("none is on", c.x.step(0, 1), 0);
        Calls.due("five steps", c.x.count(1), 59995);
        c.call(0, 0, "A.f(num)num : 1");
        Calls.due("five at once", c.x.step(0, 5), 0);
        c.call(0, 0, "A.f(num)num : 2000");
        Calls.due("4000", c.x.step(0, 4000), 1);
        Calls.due("4000 were done", c.x.run(0, 0, 1), 4000);
        Calls.due("left", c.x.count(1), 60000 - 5 - 5 - 4000);
        Calls.due("to its end", c.x.step(0, 2002), 0);
        // what throws is a step, what a start throws is none, and a run that is not found does none
        c = world("class A : Thing|method static f()none|room 1 0|null|throw|end");
        c.call(0, 0, "A.f()none");
        Calls.due("cut", c.x.step(0, 1), 1);
        Calls.due("it throws", c.x.step(0, 1), 0);
        Calls.due("two steps", c.x.run(0, 0, 1), 2);
        c.call(0, 0, "A.g()none");
        Calls.due("not found", c.x.step(0, 1), 0);
        Calls.due("rule", c.x.run(0, 0, 5), 52);
        Calls.due("without a step", c.x.run(0, 0, 1), 0);
        Calls.due("left", c.x.count(1), 59998);
    }

    /** "All runs of the house together have 60000 STEPS." FULL: threads are on, and fewer than n are left. */
    private static void stepsOfTheHouse() {
        Calls c = world(LOOP);
        c.x.world(0);
        c.define(1, LOOP.replace('|', '\n'));
        for (int i = 0; i < 14; i++) {
            c.call(0, 0, "A.f(num)num : 2000");
            Calls.due("4000", c.x.step(0, 4000), 1);
            c.x.halt(0);
        }
        Calls.due("left", c.x.count(1), 4000);
        c.call(1, 1, "A.f(num)num : 1000");
        Calls.due("3001 of another world", c.x.step(1, 3001), 1);
        Calls.due("left", c.x.count(1), 999);
        Calls.due("1000 are too many", c.x.step(1, 1000), -3);
        Calls.due("nothing was done", c.x.run(1, 1, 1), 3001);
        Calls.due("left", c.x.count(1), 999);
        Calls.due("no run: NO comes first", c.x.step(0, 4000), -2);
        Calls.due("999 are there", c.x.step(1, 999), 0);
        Calls.due("but it ended", c.x.run(1, 1, 1), 3002);
        Calls.due("left", c.x.count(1), 998);
        Calls.due("none is on: 0 though there are fewer", c.x.step(1, 4000), 0);
        c.call(1, 1, "A.f(num)num : 1000");
        Calls.due("998", c.x.step(1, 998), 1);
        Calls.due("left", c.x.count(1), 0);
        Calls.due("one more", c.x.step(1, 1), -3);
        c.trial("class A : Thing", "method static f()num", "room 1 0", "num 1", "ndone", "end", "run A.f()num");
        Calls.due("a trial's are not the house's", c.x.outcome(0, 0, 0), 2);
        Calls.due("left", c.x.count(1), 0);
        c.x.drop(1);
        c.x.drop(0);
        Calls.due("they do not come again", c.x.count(1), 0);
    }

    /** QUANTUM: 50 at first; 1 .. 200, "from the next turn on, what it was". */
    private static void quantumOfTurns() {
        for (int q : new int[] {1, 2, 50, 199, 200}) {
            Calls c = world(LOOP);
            Calls.due("50 at first", c.x.quantum(0, q), 50);
            Calls.due("it is " + q, c.x.quantum(0, q), q);
            c.call(0, 0, "A.f(num)num : 1000");
            c.call(0, 1, "A.f(num)num : 1000");
            c.x.step(0, 50);
            Calls.due("the first turn", c.x.run(0, 1, 1), 0);
            c.x.step(0, q);
            Calls.due("the next one has " + q, c.x.run(0, 1, 1), q);
            Calls.due("it is present", c.x.run(0, 0, 13), 1);
            c.x.step(0, 1);
            Calls.due("then the other", c.x.run(0, 0, 1), 51);
            Calls.due("it is present", c.x.run(0, 2, 13), 0);
            Calls.due("in the midst of a turn", c.x.quantum(0, 7), q);
            c.x.step(0, q);
            Calls.due("the turn is as it was", c.x.run(0, 1, 1), q + 1);
            c.x.step(0, 6);
            Calls.due("the next one has 7", c.x.run(0, 1, 1), q + 7);
            c.x.step(0, 7);
            Calls.due("and the next", c.x.run(0, 0, 1), 50 + q + 7);
        }
        Calls c = world(LOOP);
        for (int q : new int[] {0, -1, 201, MIN, MAX}) {
            Calls.due("quantum " + q, c.x.quantum(0, q), -1);
        }
        Calls.due("50 still", c.x.quantum(0, 200), 50);
    }

    /** "then the next one by number (0 behind 2) that can go on has it; if that is the same one, a new turn of its own". */
    private static void turnsGoRound() {
        Calls c = world(LOOP);
        c.x.quantum(0, 2);
        c.call(0, 1, "A.f(num)num : 100");
        c.call(0, 2, "A.f(num)num : 100");
        c.x.step(0, 1);
        Calls.due("0 has no run: 1 is the next", c.x.run(0, 0, 13), 1);
        c.x.step(0, 2);
        Calls.due("then 2", c.x.run(0, 0, 13), 2);
        c.call(0, 0, "A.f(num)num : 100");
        c.x.step(0, 1);
        Calls.due("2 goes on", c.x.run(0, 2, 1), 2);
        c.x.step(0, 1);
        Calls.due("0 behind 2", c.x.run(0, 0, 13), 0);
        int[] steps = {1, 2, 2};
        for (int i = 0; i < 12; i++) {
            int t = (i + 1) / 2 % 3;
            steps[t]++;
            c.x.step(0, 1);
            for (int k = 0; k < 3; k++) {
                Calls.due("steps of " + k + " at " + i, c.x.run(0, k, 1), steps[k]);
            }
        }
        c.x.halt(0);
        c.call(0, 2, "A.f(num)num : 3");
        Calls.due("alone", c.x.step(0, 11), 0);
        Calls.due("new turns of its own", c.x.run(0, 2, 1), 11);
        Calls.due("it is present still", c.x.run(0, 0, 13), 2);
    }

    /** "is no more on (also when another run is begun in it then)". */
    private static void turnOfANewRun() {
        Calls c = world(LOOP);
        c.call(0, 0, "A.f(num)num : 1");
        Calls.due("it ends", c.x.step(0, 9), 0);
        c.call(0, 0, "A.f(num)num : 5");
        c.call(0, 2, "A.f(num)num : 5");
        c.x.step(0, 1);
        Calls.due("2 is the next one", c.x.run(0, 0, 13), 2);
        Calls.due("0 did nothing", c.x.run(0, 0, 1), 0);
        c = world(LOOP);
        c.call(0, 0, "A.f(num)num : 5");
        c.call(0, 2, "A.f(num)num : 5");
        c.x.step(0, 1);
        Calls.due("at first 0 has it", c.x.run(0, 0, 13), 0);
        c = world(LOOP);
        c.call(0, 0, "A.g()num");
        c.call(0, 1, "A.f(num)num : 5");
        c.x.step(0, 1);
        Calls.due("0 FAILED without a step", c.x.run(0, 0, 0), 2);
        Calls.due("1 has it", c.x.run(0, 0, 13), 1);
        Calls.due("a step", c.x.run(0, 1, 1), 1);
    }

    private static final String LOCK = "class K : Thing|field static o row|field static p Thing|method static set()none|room 2 0|num 1|newrow|sput K.o row|new Thing|dup|special Thing.<make>()none|sput K.p Thing|done"
        + "|method static in()none|room 2 0|sget K.o row|enter|done|method static out()none|room 2 0|sget K.o row|leave|done|method static both()none|room 2 0|sget K.o row|enter|sget K.p Thing|enter|nop|done"
        + "|method static back()none|room 2 0|sget K.p Thing|enter|nop|sget K.o row|enter|nop|done|end";

    private static Calls locked() {
        Calls c = world(LOCK);
        c.call(0, 0, "K.set()none");
        Calls.due("set", c.x.step(0, 99), 0);
        Calls.due("no LOCKS", c.x.object(0, 1, -2), 0);
        return c;
    }

    private static void run(Calls c, int thread, String name, int due) {
        Calls.due("call " + name, c.call(0, thread, "K." + name + "()none"), 0);
        Calls.due("step " + name + " of " + thread, c.x.step(0, 99), due);
    }

    /** enter: "one more; leave: one less, LockFault at 0"; they are the thread's that entered first. */
    private static void locksByThread() {
        Calls c = locked();
        run(c, 1, "out", 0);
        Calls.due("LockFault at 0", c.x.run(0, 1, 4), 7);
        for (int i = 1; i <= 3; i++) {
            run(c, 1, "in", 0);
            Calls.due("LOCKS", c.x.object(0, 1, -2), i);
        }
        run(c, 0, "out", 0);
        Calls.due("by another one LockFault", c.x.run(0, 0, 4), 7);
        Calls.due("three", c.x.object(0, 1, -2), 3);
        run(c, 0, "in", 3);
        Calls.due("STUCK", c.x.run(0, 0, 0), 4);
        Calls.due("before enter, without a step", c.x.run(0, 0, 1), 1);
        Calls.due("STUCK, nothing could be done", c.x.step(0, 99), 3);
        for (int i = 2; i >= 1; i--) {
            run(c, 1, "out", 3);
            Calls.due("LOCKS", c.x.object(0, 1, -2), i);
            Calls.due("it waits", c.x.run(0, 0, 0), 4);
        }
        run(c, 1, "out", 0);
        Calls.due("0 entered", c.x.object(0, 1, -2), 1);
        run(c, 1, "out", 0);
        Calls.due("they are 0's now", c.x.run(0, 1, 4), 7);
        run(c, 0, "out", 0);
        Calls.due("free", c.x.object(0, 1, -2), 0);
        run(c, 2, "in", 0);
        Calls.due("of an ended thread it is kept", c.x.object(0, 1, -2), 1);
        c.x.drop(0);
        // of one that FAILED, too; and a thread that is begun anew has those that it had
        c = world(LOCK.replace("|method static in()none", "|method static fail()none|room 2 0|sget K.o row|enter|null|throw|method static in()none"));
        c.call(0, 0, "K.set()none");
        c.x.step(0, 99);
        run(c, 1, "fail", 0);
        Calls.due("FAILED", c.x.run(0, 1, 0), 2);
        Calls.due("its LOCKS are kept", c.x.object(0, 1, -2), 1);
        run(c, 2, "in", 3);
        run(c, 1, "out", 0);
        Calls.due("left by the next run of the thread", c.x.object(0, 1, -2), 1);
        Calls.due("2 has it", c.x.run(0, 2, 0), 0);
        c.x.drop(0);
        // two that wait for one another
        c = locked();
        c.x.quantum(0, 3);
        c.call(0, 1, "K.both()none");
        c.call(0, 2, "K.back()none");
        c.x.step(0, 6);
        Calls.due("K.o is 1's", c.x.object(0, 1, -2), 1);
        Calls.due("K.p is 2's", c.x.object(0, 2, -2), 1);
        Calls.due("STUCK", c.x.step(0, 99), 3);
        Calls.due("1 waits", c.x.run(0, 1, 0), 4);
        Calls.due("2 waits", c.x.run(0, 2, 0), 4);
        run(c, 0, "out", 3);
        Calls.due("a third one goes on", c.x.run(0, 0, 4), 7);
        Calls.due("halt: two were on", c.x.halt(0), 2);
        Calls.due("LOCKS are 0", c.x.object(0, 1, -2) + c.x.object(0, 2, -2), 0);
        run(c, 0, "in", 0);
    }

    /** A thrown one of the machine's own can be locked, and is another one's then. */
    private static void locksOfFaults() {
        Calls c = world("class A : Thing|field static e Fault|field static g Fault|method static f()none|room 2 0|handler a b c any|a: null|size|pop|b: done|frame;Fault|c: sput A.e Fault|done"
            + "|method static h()none|room 2 0|handler a b c any|a: null|size|pop|b: done|frame;Fault|c: sput A.g Fault|done"
            + "|method static in()none|room 2 0|sget A.e Fault|enter|done|method static out()none|room 2 0|sget A.e Fault|leave|done|method static other()none|room 2 0|sget A.g Fault|enter|done|end");
        String[] names = {"f", "h", "in", "in", "out", "other"};
        for (String name : names) {
            c.call(0, 0, "A." + name + "()none");
            Calls.due(name, c.x.step(0, 99), 0);
            Calls.due(name, c.x.run(0, 0, 0), 0);
        }
        c.call(0, 1, "A.in()none");
        Calls.due("one LOCK is kept", c.x.step(0, 99), 3);
        c.call(0, 2, "A.other()none");
        Calls.due("on the other one, too", c.x.step(0, 99), 3);
        c.call(0, 0, "A.out()none");
        c.x.step(0, 99);
        Calls.due("1 entered", c.x.run(0, 1, 0), 0);
        Calls.due("2 waits", c.x.run(0, 2, 0), 4);
        c.call(0, 0, "A.out()none");
        c.x.step(0, 99);
        Calls.due("it is 1's: LockFault", c.x.run(0, 0, 4), 7);
        c.x.halt(0);
        c.call(0, 2, "A.in()none");
        Calls.due("halt frees them", c.x.step(0, 99), 0);
        // LockFault at 0, and of the ones that were never locked
        c.call(0, 2, "A.out()none");
        c.x.step(0, 99);
        c.call(0, 2, "A.out()none");
        c.x.step(0, 99);
        Calls.due("LockFault", c.x.run(0, 2, 4), 7);
    }

    /** halt: how many were on; no runs; thread 0 is the present one, with a new turn. */
    private static void halts() {
        Calls c = world(LOOP);
        Calls.due("none", c.x.halt(0), 0);
        for (int on = 1; on <= 3; on++) {
            for (int t = 0; t < on; t++) {
                c.call(0, 2 - t, "A.f(num)num : 100");
            }
            c.x.step(0, 20);
            Calls.due("were on", c.x.halt(0), on);
            for (int t = 0; t < 3; t++) {
                Calls.due("no run", c.x.run(0, t, 0), -2);
                Calls.due("no steps", c.x.run(0, t, 1), 0);
                Calls.due("no frames", c.x.run(0, t, 6), 0);
                Calls.due("no value", c.x.value(0, t, false, 0), -1);
            }
            Calls.due("present", c.x.run(0, 0, 13), 0);
        }
        c.call(0, 1, "A.f(num)num : 1");
        c.x.step(0, 9);
        Calls.due("one that ended was not on", c.x.halt(0), 0);
        Calls.due("but is no run then", c.x.run(0, 1, 0), -2);
        // a new turn: QUANTUM as it is, from its begin
        c.x.quantum(0, 4);
        c.call(0, 0, "A.f(num)num : 100");
        c.call(0, 1, "A.f(num)num : 100");
        c.x.step(0, 3);
        Calls.due("two", c.x.halt(0), 2);
        c.call(0, 0, "A.f(num)num : 100");
        c.call(0, 1, "A.f(num)num : 100");
        c.x.step(0, 5);
        Calls.due("4 steps of 0", c.x.run(0, 0, 1), 4);
        Calls.due("1 of 1", c.x.run(0, 1, 1), 1);
        Calls.due("QUANTUM stays", c.x.quantum(0, 50), 4);
    }

    /** A world that is made where another one was has nothing of that. */
    private static void worldsAreNew() {
        Calls c = new Calls();
        String told = "class A : Thing|field static x num = 3|field static o row|method static f()none|room 2 1|handler a b h any|num 4|sput A.x num|num 2|newrow|dup|sput A.o row|enter|num 3|newrow|pop|a: null|size|pop|b: done|frame;Fault|h: enter|nop|done|end"
            + "|class Bad : Thing|method static f()none|room 1 0|nop|pop|done|end";
        for (int i = 0; i < 3; i++) {
            Calls.due("world", c.x.world(0), 0);
            for (int what = 0; what < 3; what++) {
                Calls.due("checked", c.x.checked(0, what), -2);
            }
            Calls.due("classes", c.x.classes(0), 0);
            Calls.due("trace", c.x.trace(0, 0, 0), -2);
            Calls.due("started", c.x.started(0, 0), -1);
            Calls.due("counts", c.x.done(0, 1) + c.x.done(0, 49), 0);
            Calls.due("quantum", c.x.quantum(0, 9), 50);
            for (int t = 0; t < 3; t++) {
                Calls.due("no run", c.x.run(0, t, 0), -2);
                Calls.due("no steps", c.x.run(0, t, 1) + c.x.run(0, t, 6), 0);
            }
            Calls.due("step", c.x.step(0, 9), -2);
            Calls.due("objects", c.x.run(0, 0, 10) + c.x.run(0, 0, 11) + c.x.run(0, 0, 12) + c.x.run(0, 0, 13), 0);
            Calls.due("object", c.x.object(0, 1, -1), -1);
            Calls.due("no class A", c.x.told(0, 21, 0), -1);
            Calls.due("told", c.define(0, told.replace('|', '\n')), 2);
            Calls.due("x", c.x.fixed(0, 21, 0), 0);
            if (i < 2) {
                Calls.due("Bad", c.x.link(0, 22), 3117);
                c.call(0, i, "A.f()none");
                Calls.due("run", c.x.step(0, 14), 1);
                Calls.due("its row", c.x.object(0, 1, -2), 1);
                Calls.due("another one", c.x.object(0, 2, -3), 3);
                Calls.due("no more", c.x.object(0, 3, -3), -1);
                Calls.due("x", c.x.fixed(0, 21, 0), 4);
                Calls.due("present", c.x.run(0, 0, 13), i);
                Calls.due("dropped with a thread on", c.x.drop(0), 2);
            }
        }
    }

    /** value(): a number itself; a reference's number; the stack from its top. */
    private static void valuesTold() {
        Calls c = world("class A : Thing" + MAKE + "|method static f()none|room 20 4|num 7|num -1|null|num 2|newrow|new A|dup|special A.<make>()none|num 1000|num 1001|num 2147483647|nop|done|end");
        c.call(0, 0, "A.f()none");
        Calls.due("before its first step", c.x.value(0, 0, false, 0), -1);
        c.x.step(0, 5 + 2 + 4 + 3);
        int[] due = {MAX, 1001, 1000, 2, 1, 0, -1, 7};
        for (int i = 0; i < due.length; i++) {
            Calls.due(i + " below the top", c.x.value(0, 0, true, i), due[i]);
        }
        Calls.due("the stack's end", c.x.value(0, 0, true, due.length), -1);
        for (int i = 0; i < 4; i++) {
            Calls.due("local " + i, c.x.value(0, 0, false, i), 0);
        }
        Calls.due("no fifth", c.x.value(0, 0, false, 4), -1);
        Calls.due("its class", c.x.object(0, 2, -1), 21);
        Calls.due("a row", c.x.object(0, 1, -1), -2);
    }

    /** Numbers and references of fields are what they are on the stack, in locals and in fields, however great. */
    private static void valuesOfFields() {
        Calls c = world("class Z : Thing|field a Thing|field b num|field c num|field d row|field e num|field f num|end|class P : Thing|field pn num|field pf Fault|field static sn num|field static sf Fault|field pr row" + MAKE + "|end|class A : P|field n num|field f Fault|field r Thing|field static an num|field static ar Thing|method <make>()none|room 1 1|rload 0|special P.<make>()none|done"
            + "|method static f()none|room 9 5|handler a b h any|a: null|size|pop|b: done|frame;Fault|h: dup|sput A.sf Fault|rstore 0|num 2|newrow|rstore 1|new A|dup|special A.<make>()none|rstore 2|rload 2|num 5000|fput P.pn num|rload 2|rload 0|fput P.pf Fault|rload 2|rload 1|fput P.pr row"
            + "|rload 2|num -7|fput A.n num|rload 2|rload 0|fput A.f Fault|rload 2|rload 2|fput A.r Thing|num 2147483647|sput A.sn num|num 1001|sput A.an num|rload 2|sput A.ar Thing|num 1001|nstore 3|nload 3|nstore 4|rload 2|fget P.pn num|rload 2|fget P.pf Fault|rload 2|fget P.pr row|rload 2|fget A.n num"
            + "|rload 2|fget A.r Thing|sget A.sn num|sget A.sf Fault|sget A.an num|sget A.ar Thing|nop|done|end");
        c.call(0, 0, "A.f()none");
        for (int i = 0; i < 150 && c.x.value(0, 0, true, 8) == -1; i++) {
            c.x.step(0, 1);
        }
        int[] stack = {2, 1001, 0, MAX, 2, -7, 1, 0, 5000};
        for (int i = 0; i < stack.length; i++) {
            Calls.due("on the stack " + i, c.x.value(0, 0, true, i), stack[i]);
        }
        int[] locals = {0, 1, 2, 1001, 1001};
        for (int i = 0; i < locals.length; i++) {
            Calls.due("local " + i, c.x.value(0, 0, false, i), locals[i]);
        }
        int[] fields = {5000, 0, 1, -7, 0, 2};
        for (int i = 0; i < fields.length; i++) {
            Calls.due("field " + i, c.x.object(0, 2, i), fields[i]);
        }
        Calls.due("no more fields", c.x.object(0, 2, fields.length), -1);
        int[] fixed = {-1, -1, MAX, 0, -1};
        for (int k = 0; k < fixed.length; k++) {
            Calls.due("fixed " + k, c.x.fixed(0, 22, k), fixed[k]);
        }
        Calls.due("fixed", c.x.fixed(0, 23, 3), 1001);
        Calls.due("fixed", c.x.fixed(0, 23, 4), 2);
        // static ones are none of an object's, wherever they stand
        c = world("class A : Thing|field static s Fault|field n num|field static m num|field f Fault|field static t row|field o num" + MAKE + "|method static f()none|room 5 2|handler a b h any|a: null|size|pop|b: done|frame;Fault|h: rstore 0|new A|dup|special A.<make>()none|rstore 1"
            + "|rload 1|num 7000|fput A.n num|rload 1|rload 0|fput A.f Fault|rload 1|num 8000|fput A.o num|done|end");
        c.call(0, 0, "A.f()none");
        Calls.due("to its end", c.x.step(0, 99), 0);
        int[] three = {7000, 0, 8000};
        for (int i = 0; i < 3; i++) {
            Calls.due("its field " + i, c.x.object(0, 1, i), three[i]);
        }
        Calls.due("three fields", c.x.object(0, 1, -3), 3);
        Calls.due("no fourth", c.x.object(0, 1, 3), -1);
    }

    /** A frame's stack is empty when it begins, whatever stood there when another one ended. */
    private static void stacksOfFrames() {
        Calls c = world("class A : Thing|method static g()none|room 5 1|nop|num 1|num 2|num 3|done|method static h()num|room 5 1|nop|num 4|num 5|num 6|ndone|method static t()none|room 5 1|nop|num 7|num 8|null|throw"
            + "|method static f()none|room 5 1|handler a b x any|num 9|static A.g()none|static A.g()none|static A.h()num|pop|a: static A.t()none|b: nop|done|frame;Fault|x: pop|static A.g()none|done|end");
        c.call(0, 0, "A.f()none");
        // nop of g, of g, of h, of t and of g; then where f goes on
        int[] steps = {3, 6, 6, 7, 7};
        for (int i = 0; i < steps.length; i++) {
            c.x.step(0, steps[i]);
            Calls.due("two frames at " + i, c.x.run(0, 0, 6), 2);
            Calls.due("its first instruction is done at " + i, c.x.run(0, 0, 9), 1);
            Calls.due("nothing on the stack at " + i, c.x.value(0, 0, true, 0), -1);
            Calls.due("the local at " + i, c.x.value(0, 0, false, 0), 0);
        }
        c.x.step(0, 4);
        Calls.due("back in f", c.x.run(0, 0, 6), 1);
        Calls.due("its stack: what was thrown is popped", c.x.value(0, 0, true, 0), -1);
        c.x.step(0, 1);
        Calls.due("ended", c.x.run(0, 0, 0), 0);
        c.call(0, 0, "A.g()none");
        c.x.step(0, 1);
        Calls.due("a run's first frame, too", c.x.value(0, 0, true, 0), -1);
    }

    /** A built-in <make> takes its object from the stack, and no more. */
    private static void builtInMakes() {
        Calls c = world("class A : Thing|method static f()none|room 9 1|num 7|new Thing|dup|special Thing.<make>()none|num 8|new Fault|special Fault.<make>()none|nop|done|end");
        c.call(0, 0, "A.f()none");
        c.x.step(0, 4);
        Calls.due("the object", c.x.value(0, 0, true, 0), 1);
        Calls.due("7 below it", c.x.value(0, 0, true, 1), 7);
        Calls.due("no more", c.x.value(0, 0, true, 2), -1);
        Calls.due("one frame", c.x.run(0, 0, 6), 1);
        Calls.due("it goes on", c.x.run(0, 0, 9), 4);
        c.x.step(0, 3);
        int[] due = {8, 1, 7};
        for (int i = 0; i < 3; i++) {
            Calls.due("then " + i, c.x.value(0, 0, true, i), due[i]);
        }
        Calls.due("no more", c.x.value(0, 0, true, 3), -1);
        Calls.due("seven steps", c.x.run(0, 0, 1), 7);
    }
}
