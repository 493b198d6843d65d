import java.util.ArrayList;
import java.util.List;

/** Sections 8 and 13 and promises 13 to 16: what a trial is, its outcomes, each rule that is met, the stock made small, shrunk and changed ones. */
public final class TrialBoundsTest {
    private static final String RUN = "run A.f()num";
    private static final String MAKE = "|method <make>()none|room 1 1|rload 0|special Thing.<make>()none|done";
    private static long seed = 20261119;

    public static void main(String[] args) {
        lastLine();
        linesKept();
        fullFirst();
        outcomesOfTexts();
        outcomesOfRuns();
        threeHundredSteps();
        thrownOnes();
        metRules();
        holesOfMet();
        worldsOfTheirOwn();
        foundBreaks();
        leastAndFewest();
        fewestIsNotLeast();
        shrunkByLines();
        shrunkWithBreaks();
        changedByWays();
        changedIsFull();
        textsToTheEnd();
        counted();
        Calls.end();
    }

    private static int random(int n) {
        seed = seed * 6364136223846793005L + 1442695040888963407L;
        return (int) ((seed >>> 33) % n);
    }

    private static int trial(Calls c, String told) {
        return c.trial(told.replace('|', '\n'));
    }

    private static String text(Calls c, int trial) {
        StringBuilder s = new StringBuilder();
        int b = c.x.text(trial, 0);
        for (int i = 1; b >= 0; i++) {
            s.append((char) b);
            b = c.x.text(trial, i);
        }
        return s.toString();
    }

    /** "-11 when its last line with words is not run and a CALL, or there is none (.. the TAPE's length when there is no line; classes are not looked at)". */
    private static void lastLine() {
        String six = "num,num,num,num,num,num";
        String[] bad = {"^", "#^", "||^", "   |#|^", "^x", "^A.f()num", "run^", "run ^5", "run A^", "run A.f()^", "run A.f()num ^x", "run A.f()num ^:", "run A.f()num ^: 1", "run A.f(num)num^", "run A.f(num)num :^",
            "run A.f(num)num : 1 ^2", "run A.f(num)num : 1^, 2", "run A.f(^row)num : 1", "run A.f(num)num : ^2147483648", "run A.^<make>()num", "run A.^<start>()none", "run ^num.f()num", "run A.f()^null", "run ^.A.f()num",
            "run A.f(" + six + ",^num)num : 1, 2, 3, 4, 5, 6, 7", "class A : Thing|end|^class B : Thing", "run A.f()num|^end", "run A.f()num|run A.f()num ^@", "@|x|^@", "class A : Thing|^end|||#", "^rUn A.f()num", "^<make>"};
        for (String one : bad) {
            Calls c = new Calls();
            trial(c, RUN);
            Calls.due(one, trial(c, one.replace("^", "")), -11);
            Calls.due("place of " + one, c.x.place(), one.indexOf('^'));
            Calls.due("one trial", c.x.count(0), 1);
            Calls.due("the TAPE behind " + one, c.x.count(2), 0);
        }
        String[] good = {RUN, "run Gone.g()none", "run run.run()row", "  run  A . f ( ) num  # x", "@|5|" + RUN, RUN + "|" + RUN, "run A.f(num,num)A : -1, 2||#|", "run A.f(" + six + ")num:1,2,3,4,5,6", "class A : Thing|" + RUN + "|\n"};
        for (String one : good) {
            Calls c = new Calls();
            Calls.due(one, trial(c, one), 0);
            Calls.due("place of " + one, c.x.place(), -2);
            Calls.due("the TAPE behind " + one, c.x.count(2), 0);
            Calls.due("the next one", trial(c, one), 1);
        }
    }

    /** "(lines without words are not kept)"; "its lines with a 10 behind each". */
    private static void linesKept() {
        String[] told = {"#|class A : Thing#x||  |end|#| " + RUN + "||#", "@|#@|" + RUN, "x  |y|" + RUN + " "};
        String[] kept = {"class A : Thing#x|end| " + RUN + "|", "@|" + RUN + "|", "x  |y|" + RUN + " |"};
        for (int i = 0; i < told.length; i++) {
            Calls c = new Calls();
            trial(c, told[i]);
            Calls.same(told[i], text(c, 0), kept[i].replace('|', '\n'));
        }
    }

    /** FULL: 40, more than 1200 bytes, 60 lines with words; asked first. */
    private static void fullFirst() {
        Calls c = new Calls();
        for (int bytes = 1199; bytes <= 1202; bytes++) {
            c = new Calls();
            String told = "#".repeat(bytes - RUN.length() - 1) + "|" + RUN;
            Calls.due(bytes + " bytes", trial(c, told), bytes > 1200 ? -3 : 0);
            Calls.due("the TAPE", c.x.count(2), bytes > 1200 ? bytes : 0);
            c.x.cut(c.x.count(2));
            Calls.due("none, too, of " + bytes, trial(c, "#".repeat(bytes)), bytes > 1200 ? -3 : -11);
            c.x.cut(c.x.count(2));
        }
        c = new Calls();
        for (int lines = 59; lines <= 62; lines++) {
            Calls.due(lines + " lines", trial(c, "x|#|".repeat(lines - 1) + RUN), lines > 60 ? -3 : lines - 59);
            c.x.cut(c.x.count(2));
            Calls.due("none, too, of " + lines, trial(c, "x||".repeat(lines)), lines > 60 ? -3 : -11);
            c.x.cut(c.x.count(2));
        }
        Calls.due("two came", c.x.count(0), 2);
        Calls.due("place is the latest one's that took the TAPE", c.x.place(), 59 * 3);
        c = new Calls();
        for (int t = 0; t < 40; t++) {
            Calls.due("trial " + t, trial(c, RUN), t);
        }
        Calls.due("the 41st", trial(c, RUN), -3);
        Calls.due("the TAPE stays", c.x.cut(RUN.length()), 0);
        Calls.due("least is one: 50 is met", c.x.least(), 1);
        Calls.due("there is room again", trial(c, RUN), 1);
    }

    private static void outcome(int kind, int number, int breaks, String told) {
        Calls c = new Calls();
        Calls.due("trial " + told, trial(c, told), 0);
        Calls.due("kind of " + told, c.x.outcome(0, breaks, 0), kind);
        Calls.due("number of " + told, c.x.outcome(0, breaks, 1), number);
        Calls.due("again", c.x.outcome(0, breaks, 0), kind);
    }

    /** "if that is refused: kind 1, the rule". */
    private static void outcomesOfTexts() {
        for (int i = 0; i < 14; i++) {
            outcome(1, i + 1, 0, TEXTS[i] + "|" + RUN);
        }
        outcome(1, 4, 254, TEXTS[3] + "|" + RUN);
        outcome(4, 5011, 1, TEXTS[3] + "|" + RUN);
        outcome(1, 5, 253, TEXTS[4] + "|" + RUN);
        outcome(4, 5011, 2, TEXTS[4] + "|" + RUN);
        outcome(1, 6, 251, TEXTS[5] + "|" + RUN);
        outcome(4, 5011, 4, TEXTS[5] + "|" + RUN);
        // a text without classes is one; run stands behind the last end alone
        outcome(4, 5011, 0, RUN);
        outcome(1, 1, 0, RUN + "|" + RUN);
        outcome(1, 1, 0, "class A : Thing|" + RUN);
        outcome(4, 5213, 0, "class A : Thing|end|" + RUN);
    }

    private static final String[] TEXTS = {"x", "class Thing : Fault|end", "class B : Thing|field x num|field x num|end", "final abstract class B : Thing|end", "face class B : Thing|field x num|end",
        "class B : Thing|method abstract f()none|end", "class B : Thing|method <make>()num|end", "class B : Thing|method f()none|room 1 1|end", "class B : Thing|method f()none|room 1 1|jump L|end",
        "class B : Thing|method f()none|room 1 1|L: nop|handler L L L any|end", "class B : B|end", "class B : Thing, C, D, E, F, G|end", "class B : Thing|method f()none|room 0 0|done|end", "class B : Thing|field x num = 1|end"};

    private static String body(String result, String lines) {
        return "class A : Thing" + MAKE + "|method static f()" + result + "|room 5 3|" + lines + "|end|run A.f()" + result;
    }

    /** "2 it ended with a number, which; 3 without one: 0 null or none, 1 a row, 2 an object". */
    private static void outcomesOfRuns() {
        for (int n : new int[] {0, 1, -1, 5011, Integer.MAX_VALUE, Integer.MIN_VALUE}) {
            outcome(2, n, 0, body("num", "num " + n + "|ndone"));
            outcome(2, n, 255, body("num", "num " + n + "|ndone"));
        }
        outcome(3, 0, 0, body("none", "done"));
        outcome(3, 0, 0, body("row", "null|rdone"));
        outcome(3, 0, 0, body("A", "null|rdone"));
        outcome(3, 1, 0, body("row", "num 0|newrow|rdone"));
        outcome(3, 1, 0, body("Thing", "num 0|newrow|rdone"));
        outcome(3, 2, 0, body("A", "new A|dup|special A.<make>()none|rdone"));
        outcome(3, 2, 0, body("Thing", "new A|dup|special A.<make>()none|rdone"));
        outcome(3, 2, 0, body("Fault", "handler a b c any|a: null|size|pop|b: null|rdone|frame;Fault|c: rdone"));
        outcome(2, -3, 0, "class A : Thing|method static f(num,num)num|room 2 2|nload 0|nload 1|sub|ndone|end|run A.f(num,num)num : 4, 7");
        // it is found as by static, by a method of no class
        outcome(4, 5314, 0, "class A : Thing|method private static f()num|room 1 0|num 1|ndone|end|" + RUN);
        outcome(2, 1, 32, "class A : Thing|method private static f()num|room 1 0|num 1|ndone|end|" + RUN);
        outcome(4, 5515, 0, "class A : Thing|method f()num|room 1 1|num 1|ndone|end|" + RUN);
        outcome(2, 1, 0, "face class A : Thing|method static f()num|room 1 0|num 1|ndone|end|" + RUN);
    }

    /** "300 steps at most (not of the house's)": those of starts, too; "5 cut, or STUCK". */
    private static void threeHundredSteps() {
        for (int nops = 0; nops < 4; nops++) {
            // 297 of the loop, one more, two at the end
            String loop = "class A : Thing|method static f()num|room 1 1|num 98|nstore 0|frame num;|L: inc 0 -1|nload 0|ifg L|" + "nop|".repeat(nops) + "num 6|ndone|end|" + RUN;
            int steps = 2 + 98 * 3 + nops + 2;
            outcome(steps <= 300 ? 2 : 5, steps <= 300 ? 6 : 0, 0, loop);
            String start = "class B : Thing|field static x num = 6|method static <start>()none|room 1 1|num 98|nstore 0|frame num;|L: inc 0 -1|nload 0|ifg L|" + "nop|".repeat(nops) + "done|end|class A : Thing|method static f()num|room 1 1|sget B.x num|ndone|end|" + RUN;
            steps = 2 + 98 * 3 + nops + 1 + 2;
            outcome(steps <= 300 ? 2 : 5, steps <= 300 ? 6 : 0, 0, start);
            // what is thrown with the last step, or behind it
            String thrown = "class A : Thing|method static f()num|room 1 1|num 98|nstore 0|frame num;|L: inc 0 -1|nload 0|ifg L|" + "nop|".repeat(nops) + "nop|nop|null|throw|end|" + RUN;
            steps = 2 + 98 * 3 + nops + 4;
            outcome(steps <= 300 ? 4 : 5, steps <= 300 ? 2 : 0, 0, thrown);
        }
        outcome(5, 0, 0, "class A : Thing|method static f()num|room 1 0|frame ;|L: jump L|end|" + RUN);
        Calls c = new Calls();
        trial(c, "class A : Thing|method static f()num|room 1 0|frame ;|L: jump L|end|" + RUN);
        for (int i = 0; i < 210; i++) {
            c.x.outcome(0, i, 0);
        }
        Calls.due("the house has its steps", c.x.count(1), 60000);
    }

    /** "4 FAILED: 100 times the rule, and the number of the thrown one's class if it is built-in .., else 99". */
    private static void thrownOnes() {
        String[] names = {"Fault", "NullFault", "ZeroFault", "PlaceFault", "SizeFault", "CastFault", "LockFault", "DeepFault", "RoomFault", "LinkFault", "ClassFault", "FieldFault", "MethodFault", "AccessFault",
            "KindFault", "RingFault", "CheckFault", "BodyFault", "MakeFault", "StartFault"};
        for (int i = 0; i < names.length; i++) {
            outcome(4, i + 1, 0, body("num", "new " + names[i] + "|dup|special " + names[i] + ".<make>()none|throw"));
            outcome(4, 99, 0, body("num", "new E|dup|special E.<make>()none|throw").replace("class A : Thing", "class E : " + names[i] + "|method <make>()none|room 1 1|rload 0|special " + names[i]
                + ".<make>()none|done|end|class A : Thing"));
        }
        outcome(4, 2, 0, body("num", "null|throw"));
        outcome(4, 3, 0, body("num", "num 1|num 0|div|ndone"));
        outcome(4, 5011, 0, body("num", "new Gone|pop|num 1|ndone"));
        outcome(4, 2011, 0, "class A : Gone|method static f()num|room 1 0|num 1|ndone|end|" + RUN);
    }

    private static final String OWN = "class E : Fault|method <make>()none|room 1 1|rload 0|special Fault.<make>()none|done|end|" + body("num", "new E|dup|special E.<make>()none|throw");
    private static final String AF = "|class A : Thing|method static f()num|room 3 2|";
    private static final String ENDS = "|num 1|ndone|end|" + RUN;

    private static String check(String lines) {
        return "class A : Thing|method static f()num|room 2 2|" + lines + "|end|" + RUN;
    }

    /** A trial for each rule from 20 on. */
    private static String[][] rulesMet() {
        String b = "class B : Thing|";
        return new String[][] {
            {"20", "class A : Gone|end|" + RUN}, {"21", "final class B : Thing|end|class A : B|end|" + RUN}, {"22", "class A : Thing, Gone|end|" + RUN}, {"23", "class A : Thing, Fault|end|" + RUN},
            {"24", "class A : B|end|class B : A|end|" + RUN}, {"25", b + "method final m()none|room 0 1|done|end|class A : B|method m()none|room 0 1|done|end|" + RUN},
            {"30", check("num 1|num 1|num 1|ndone")}, {"31", check("pop|num 1|ndone")}, {"32", check("null|ndone")}, {"33", check("nload 2|ndone")}, {"34", check("nload 1|ndone")}, {"35", check("num 1|pop")},
            {"36", check("num 1|ndone|num 1|ndone")}, {"37", check("num 1|frame ;|ndone")}, {"38", check("num 1|frame ;unset|ndone")}, {"39", check("new A|enter|num 1|ndone")},
            {"40", "class A : Thing|method <make>()none|room 0 1|done|end|" + RUN}, {"41", check("done")}, {"42", check("static A.<make>()none|num 1|ndone")}, {"43", "class A : Thing|method static f(Gone)none|room 1 1|rload 0|throw|end|" + RUN},
            {"50", RUN}, {"51", b + "end" + AF + "sget B.x num|ndone|end|" + RUN}, {"52", "class A : Thing|end|" + RUN}, {"53", b + "field private static x num|end" + AF + "sget B.x num|ndone|end|" + RUN},
            {"54", b + "field final static x num|end" + AF + "num 1|sput B.x num" + ENDS}, {"55", "class A : Thing|method f()num|room 1 1|num 1|ndone|end|" + RUN}, {"56", b + "end" + AF + "null|facecall B.m()none" + ENDS},
            {"57", "abstract class B : Thing|end" + AF + "new B|pop" + ENDS}, {"58", "abstract class B : Thing" + MAKE + "|method abstract m()none|end|class C : B|method <make>()none|room 1 1|rload 0|special B.<make>()none|done|end" + AF
                + "new C|dup|special C.<make>()none|call B.m()none" + ENDS},
            {"59", "face class B : Thing|method abstract m()none|end" + AF + "num 0|newrow|cast Thing|facecall B.m()none" + ENDS}};
    }

    /** "A trial MEETS a rule: 1 .. 14, 20 .. 25, 30 .. 43, 50 .. 59, if its outcome without breaks is of kind 1 with it, or of kind 4 with it." */
    private static void metRules() {
        Calls c = new Calls();
        for (int i = 0; i < 14; i++) {
            Calls.due("trial " + i, trial(c, TEXTS[i] + "|" + RUN), i);
            Calls.due("meets", c.x.meets(i), i + 1);
        }
        String[][] others = rulesMet();
        Calls.due("44 rules in all", others.length + 14, 44);
        for (int i = 0; i < others.length; i++) {
            if (i % 10 == 0) {
                c = new Calls();
            }
            Calls.due(others[i][1], trial(c, others[i][1]), i % 10);
            Calls.due("meets " + others[i][1], c.x.meets(i % 10), Integer.parseInt(others[i][0]));
            Calls.due("kind", c.x.outcome(i % 10, 0, 0), 4);
        }
        String[] none = {body("num", "num 50|ndone"), body("num", "num 5011|ndone"), body("num", "null|throw"), body("none", "done"), body("row", "num 0|newrow|rdone"), "class A : Thing|method static f()num|room 1 0|frame ;|L: jump L|end|" + RUN,
            body("num", "new LinkFault|dup|special LinkFault.<make>()none|throw"), OWN};
        c = new Calls();
        for (int i = 0; i < none.length; i++) {
            trial(c, none[i]);
            Calls.due("meets none " + none[i], c.x.meets(i), 0);
        }
    }

    /** hole: "the i-th rule (from 0) that no trial of the stock meets". */
    private static void holesOfMet() {
        int[] all = new int[44];
        int n = 0;
        for (int r = 1; r < 60; r++) {
            if (r <= 14 || r >= 20 && r <= 25 || r >= 30 && r <= 43 || r >= 50) {
                all[n] = r;
                n++;
            }
        }
        Calls c = new Calls();
        for (int i = 0; i < 44; i++) {
            Calls.due("hole " + i, c.x.hole(i), all[i]);
        }
        Calls.due("no 45th", c.x.hole(44), -2);
        Calls.due("far", c.x.hole(Integer.MAX_VALUE), -2);
        Calls.due("below", c.x.hole(-1), -1);
        trial(c, "x|" + RUN);
        trial(c, TEXTS[13] + "|" + RUN);
        trial(c, rulesMet()[0][1]);
        trial(c, rulesMet()[29][1]);
        trial(c, body("num", "null|throw"));
        n = 0;
        for (int i = 0; i < 44; i++) {
            if (all[i] != 1 && all[i] != 14 && all[i] != 20 && all[i] != 59) {
                Calls.due("hole " + n, c.x.hole(n), all[i]);
                n++;
            }
        }
        Calls.due("40 holes", c.x.hole(40), -2);
        c.x.change(0, 0, 0, 0);
        Calls.due("a changed one meets 50", c.x.hole(38), 58);
        Calls.due("39 holes", c.x.hole(39), -2);
    }

    /** Trials do not see the object's worlds, nor these them. */
    private static void worldsOfTheirOwn() {
        Calls c = new Calls();
        for (int w = 0; w < 3; w++) {
            c.x.world(255);
            c.define(w, "class A : Thing", "field static x num = 5", "method static f()num", "room 1 0", "sget A.x num", "ndone", "end");
        }
        trial(c, "class A : Thing|method static f()num|room 1 0|num 8|ndone|end|" + RUN);
        trial(c, RUN);
        c.call(0, 0, "A.f()num");
        Calls.due("its own class", c.x.outcome(0, 0, 1), 8);
        Calls.due("built-in ones alone", c.x.outcome(1, 0, 1), 5011);
        Calls.due("again", c.x.outcome(0, 0, 1), 8);
        Calls.due("the run is on", c.x.run(0, 0, 0), 1);
        c.x.step(0, 9);
        Calls.due("as it was", c.x.run(0, 0, 3), 5);
        for (int w = 0; w < 3; w++) {
            Calls.due("classes", c.x.classes(w), 1);
        }
    }

    private static final String[] TRIES = {"sget B.p num|pop", "num 1|sput B.q num", "new B|pop"};

    /** Each try of these breaks (5, 6, 7 as bits 0, 1, 2) that is no fault ends it with a number; behind them it does what is told. */
    private static String tries(int bits, String told) {
        StringBuilder s = new StringBuilder("abstract class B : Thing|field private static p num|field static final q num|end" + AF);
        for (int i = 0; i < 3; i++) {
            if ((bits >> i & 1) == 1) {
                s.append("handler a").append(i).append(" b").append(i).append(" c").append(i).append(" any|a").append(i).append(": ").append(TRIES[i]).append("|b").append(i).append(": num ").append(i)
                    .append("|ndone|frame;Fault|c").append(i).append(": pop|");
            }
        }
        return s + told + "|end|" + RUN;
    }

    /** FINDS: "when its outcome with them is another one", in kind or number. */
    private static void foundBreaks() {
        for (int bits = 0; bits < 8; bits++) {
            Calls c = new Calls();
            trial(c, tries(bits, "num 9|ndone"));
            trial(c, tries(bits, "new Gone|pop|num 9|ndone"));
            Calls.due("meets none", c.x.meets(0), 0);
            Calls.due("meets 50", c.x.meets(1), 50);
            for (int b = 0; b < 8; b++) {
                int due = b >= 5 ? bits >> b - 5 & 1 : 0;
                Calls.due(bits + " finds " + b, c.x.finds(0, 1 << b), due);
                Calls.due(bits + " finds, too, " + b, c.x.finds(1, 1 << b), due);
            }
            Calls.due("none is not found", c.x.finds(0, 0), 0);
            Calls.due("all", c.x.finds(0, 255), bits == 0 ? 0 : 1);
            Calls.due("all but these", c.x.finds(0, 31), 0);
        }
        // another number of the same kind; the same number of another kind
        Calls c = new Calls();
        trial(c, "class B : Thing|field private static x num = 3|field final static y num|end" + AF + "num 1|sput B.y num|sget B.x num|ndone|end|" + RUN);
        Calls.due("53 for 54", c.x.outcome(0, 64, 1), 5314);
        Calls.due("54 without", c.x.outcome(0, 0, 1), 5414);
        Calls.due("finds 54", c.x.finds(0, 64), 1);
        Calls.due("not 53", c.x.finds(0, 32), 0);
        trial(c, "class B : Thing|field private static x num = 5314|end" + AF + "sget B.x num|ndone|end|" + RUN);
        Calls.due("the same number", c.x.outcome(1, 32, 1), c.x.outcome(1, 0, 1));
        Calls.due("of another kind", c.x.outcome(1, 32, 0) - c.x.outcome(1, 0, 0), -2);
        Calls.due("finds it", c.x.finds(1, 32), 1);
        // by its kind alone: 0 of a number, 0 of one that is cut
        c = new Calls();
        trial(c, "class B : Thing|field private static x num|end" + AF + "handler a b h any|a: sget B.x num|pop|frame;|b: jump b|frame;Fault|h: pop|num 0|ndone|end|" + RUN);
        Calls.due("the same number", c.x.outcome(0, 32, 1) + c.x.outcome(0, 0, 1), 0);
        Calls.due("a number", c.x.outcome(0, 0, 0), 2);
        Calls.due("cut", c.x.outcome(0, 32, 0), 5);
        Calls.due("finds it", c.x.finds(0, 32), 1);
        Calls.due("meets none", c.x.meets(0), 0);
        Calls.due("it is wanted for that", c.x.fewest(), 1);
        Calls.due("so it stays", c.x.least(), 1);
    }

    /** Stocks by chance: least and fewest as they are asked for by trying. */
    private static void leastAndFewest() {
        String[] ends = {"num 9|ndone", "new Gone|pop|num 9|ndone", "sget B.none num|ndone", "static B.none()num|ndone", "static B.<make>()none|num 1|ndone"};
        for (int round = 0; round < 60; round++) {
            Calls c = new Calls();
            int first = 5 + random(4);
            for (int t = 0; t < first; t++) {
                int kind = random(9);
                String told = kind == 0 ? TEXTS[3] + "|" + RUN : kind == 1 ? TEXTS[4] + "|" + RUN : kind == 2 ? TEXTS[random(14)] + "|" + RUN : tries(random(8), ends[random(ends.length)]);
                Calls.due("trial", trial(c, told), t);
            }
            int copies = random(5);
            for (int i = 0; i < copies; i++) {
                c.x.change(random(first), 2, 0, 0);
            }
            int n = first + copies;
            int[] met = new int[n];
            int[] found = new int[n];
            for (int t = 0; t < n; t++) {
                met[t] = c.x.meets(t);
                for (int b = 0; b < 8; b++) {
                    found[t] |= c.x.finds(t, 1 << b) << b;
                }
            }
            if (round % 3 != 0) {
                Calls.due("fewest of round " + round, c.x.fewest(), fewest(met, found));
            }
                List<Integer> left = least(met, found);
            Calls.due("least of round " + round, c.x.least(), left.size());
            Calls.due("so many are there", c.x.count(0), left.size());
            for (int k = 0; k < left.size(); k++) {
                Calls.due("it meets", c.x.meets(k), met[left.get(k)]);
                Calls.due("it finds", c.x.finds(k, 224), (found[left.get(k)] & 224) != 0 ? 1 : 0);
            }
            Calls.due("no more", c.x.meets(left.size()), -1);
            Calls.due("fewest is as it was", c.x.fewest(), fewest(met, found));
            Calls.due("once more", c.x.least(), left.size());
        }
    }

    private static boolean serves(int[] met, int[] found, int set) {
        int rules = 0;
        int bits = 0;
        int allBits = 0;
        boolean good = true;
        for (int t = 0; t < met.length; t++) {
            allBits |= found[t];
            bits |= (set >> t & 1) == 1 ? found[t] : 0;
        }
        for (int t = 0; t < met.length; t++) {
            boolean done = met[t] == 0;
            for (int u = 0; u < met.length; u++) {
                done = done || (set >> u & 1) == 1 && met[u] == met[t];
            }
            good = good && done;
        }
        return good && bits == allBits;
    }

    private static int fewest(int[] met, int[] found) {
        int best = met.length;
        for (int set = 0; set < 1 << met.length; set++) {
            if (Integer.bitCount(set) < best && serves(met, found, set)) {
                best = Integer.bitCount(set);
            }
        }
        return best;
    }

    private static List<Integer> least(int[] met, int[] found) {
        int set = (1 << met.length) - 1;
        for (int t = met.length - 1; t >= 0; t--) {
            if (serves(met, found, set & ~(1 << t))) {
                set &= ~(1 << t);
            }
        }
        List<Integer> left = new ArrayList<>();
        for (int t = 0; t < met.length; t++) {
            if ((set >> t & 1) == 1) {
                left.add(t);
            }
        }
        return left;
    }

    /** From the last one on is not always fewest; and the numbers and texts of those that stay. */
    private static void fewestIsNotLeast() {
        Calls c = new Calls();
        Calls.due("of none", c.x.fewest() + c.x.least(), 0);
        trial(c, tries(1, "num 9|ndone"));
        trial(c, tries(2, "num 9|ndone"));
        trial(c, tries(3, "num 9|ndone"));
        Calls.due("the third one does it", c.x.fewest(), 1);
        Calls.due("but it goes first", c.x.least(), 2);
        Calls.due("fewest of these", c.x.fewest(), 2);
        Calls.due("the first finds 53", c.x.finds(0, 32), 1);
        Calls.due("the second 54", c.x.finds(1, 64), 1);
        Calls.due("what was met is met: none", c.x.meets(0) + c.x.meets(1), 0);
        c = new Calls();
        trial(c, tries(1, "num 9|ndone"));
        trial(c, tries(7, "num 9|ndone"));
        trial(c, tries(2, "num 9|ndone"));
        trial(c, RUN);
        trial(c, tries(4, "new Gone|pop|num 9|ndone"));
        Calls.due("fewest", c.x.fewest(), 2);
        // 50 is met by the fourth, too, all that is found is found by the second: the first is without use, too
        Calls.due("least", c.x.least(), 2);
        Calls.due("the second one is the first", c.x.finds(0, 128), 1);
        Calls.due("the fourth one the second", c.x.meets(1), 50);
        Calls.same("its text", text(c, 1), RUN + "\n");
        Calls.due("a new one", trial(c, tries(1, "num 9|ndone")), 2);
        Calls.due("goes again", c.x.least(), 2);
    }

    /** The outcome of lines, with breaks. */
    private static String outcome(List<String> lines, int breaks) {
        Calls c = new Calls();
        c.trial(String.join("\n", lines));
        return c.x.outcome(0, breaks, 0) + " " + c.x.outcome(0, breaks, 1);
    }

    private static void shrunk(String told, int breaks) {
        Calls c = new Calls();
        trial(c, "x|" + RUN);
        int t = trial(c, told);
        List<String> lines = new ArrayList<>();
        for (String line : told.split("\\|")) {
            lines.add(line);
        }
        String without = outcome(lines, 0);
        String with = outcome(lines, breaks);
        for (int i = lines.size() - 2; i >= 0; i--) {
            String line = lines.remove(i);
            if (!outcome(lines, 0).equals(without) || !outcome(lines, breaks).equals(with)) {
                lines.add(i, line);
            }
        }
        Calls.due("shrunk " + breaks + " " + told, c.x.shrink(t, breaks), lines.size());
        Calls.same("text of " + told, text(c, t), String.join("\n", lines) + "\n");
        Calls.same("the other one is as it was", text(c, 0), "x\n" + RUN + "\n");
        Calls.due("two trials", c.x.count(0), 2);
        Calls.due("the same outcome", c.x.outcome(t, 0, 0), Integer.parseInt(without.split(" ")[0]));
        Calls.due("the same number", c.x.outcome(t, breaks, 1), Integer.parseInt(with.split(" ")[1]));
        String[] single = without.split(" ");
        int kind = Integer.parseInt(single[0]);
        Calls.due("meets", c.x.meets(t), kind == 1 ? Integer.parseInt(single[1]) : kind == 4 ? Integer.parseInt(single[1]) / 100 : 0);
    }

    /** "from its last line to its first (but the one that begins with run) each line goes without which its outcomes .. are as they were; one going through". */
    private static void shrunkByLines() {
        for (String text : TEXTS) {
            shrunk(text + "|" + RUN, 0);
            shrunk("class Q : Thing|end|" + text + "|" + RUN, 0);
        }
        for (String[] one : rulesMet()) {
            shrunk(one[1], 0);
        }
        shrunk(RUN, 0);
        shrunk("x|y|z|" + RUN, 0);
        shrunk(body("num", "nop|num 1|nop|num 2|pop|ndone"), 0);
        shrunk(body("num", "num 1|neg|neg|num 0|add|ndone"), 0);
        // a pair of lines is not left out at once: dup and pop
        shrunk(body("num", "num 7|dup|pop|nop|ndone"), 0);
        // behind one going through it may be that more could go
        shrunk("class A : Thing|field x num|field y num|end|class B : Thing|end|class C : A|end|" + RUN, 0);
    }

    /** "its outcomes without and with the breaks are as they were". */
    private static void shrunkWithBreaks() {
        for (int bits = 0; bits < 8; bits++) {
            for (int breaks : new int[] {0, 32, 64, 128, 255}) {
                shrunk(tries(bits, "num 9|ndone"), breaks);
            }
        }
        String[][] met = rulesMet();
        for (String[] one : met) {
            shrunk(one[1], 255);
        }
        for (int i = 3; i < 6; i++) {
            shrunk(TEXTS[i] + "|" + RUN, 1 << i - 3);
        }
        // an outcome is its kind and its number: without the handler it would be of another kind with this number
        String kept = "class B : Thing|field private static x num|end" + AF + "nop|handler a b h any|a: sget B.x num|b: ndone|frame;Fault|h: pop|num 5314|ndone|end|" + RUN;
        shrunk(kept, 0);
        shrunk(kept, 32);
        shrunk(kept.replace("5314", "5315"), 32);
        // what it finds is asked anew of the shrunk one
        Calls c = new Calls();
        trial(c, tries(1, "num 9|ndone"));
        Calls.due("fewest", c.x.fewest(), 1);
        c.x.shrink(0, 0);
        Calls.due("it finds nothing more", c.x.finds(0, 32), 0);
        Calls.due("fewest of it", c.x.fewest(), 0);
        Calls.due("least", c.x.least(), 0);
    }

    /** "0 line i is left out; 1 it stands twice; 2 lines i and j are exchanged; 3 line i is as line j is"; the last one is none of them. */
    private static void changedByWays() {
        String[] lines = {"a", "b b", "c#", "d"};
        for (int n = 1; n <= 4; n++) {
            StringBuilder told = new StringBuilder();
            for (int i = 0; i < n; i++) {
                told.append(lines[i]).append('|');
            }
            for (int way = 0; way < 4; way++) {
                for (int i = 0; i < n; i++) {
                    for (int j = 0; j < n; j++) {
                        Calls c = new Calls();
                        trial(c, told + RUN);
                        StringBuilder due = new StringBuilder();
                        for (int k = 0; k < n; k++) {
                            int from = k == i && way > 1 ? j : way == 2 && k == j ? i : k;
                            due.append(way == 0 && k == i ? "" : lines[from] + "|").append(way == 1 && k == i ? lines[from] + "|" : "");
                        }
                        Calls.due("its number", c.x.change(0, way, i, j), 1);
                        Calls.same(told + " by " + way + " " + i + " " + j, text(c, 1), (due + RUN + "|").replace('|', '\n'));
                        Calls.same("the one that it is made of", text(c, 0), (told + RUN + "|").replace('|', '\n'));
                        Calls.due("two", c.x.count(0), 2);
                    }
                }
                Calls c = new Calls();
                trial(c, told + RUN);
                Calls.due("line " + n + " by " + way, c.x.change(0, way, n, 0), -1);
                Calls.due("line -1 by " + way, c.x.change(0, way, -1, 0), -1);
                if (way > 1) {
                    Calls.due("to line " + n + " by " + way, c.x.change(0, way, 0, n), -1);
                    Calls.due("to line -1 by " + way, c.x.change(0, way, 0, -1), -1);
                }
                Calls.due("so many", c.x.count(0), 1);
            }
        }
        Calls c = new Calls();
        trial(c, RUN);
        for (int way = 0; way < 4; way++) {
            Calls.due("a trial of its run alone", c.x.change(0, way, 0, 0), -1);
        }
        // it is judged for itself
        trial(c, "x|" + RUN);
        Calls.due("without x", c.x.change(1, 0, 0, 0), 2);
        Calls.due("meets 1", c.x.meets(1), 1);
        Calls.due("meets 50", c.x.meets(2), 50);
        Calls.due("finds nothing", c.x.finds(2, 255), 0);
    }

    /** FULL: "more than 1200 bytes (each line with a 10 behind it, the last one too, though it had none) or 60 lines". */
    private static void changedIsFull() {
        for (int bytes = 1197; bytes <= 1200; bytes++) {
            // kept with one byte more, for the last line's 10
            String told = "y|zz|" + "x".repeat(12) + " ".repeat(bytes - RUN.length() - 18) + "|" + RUN;
            Calls c = new Calls();
            trial(c, told);
            Calls.due("its bytes", c.x.text(0, bytes), 10);
            Calls.due("no more", c.x.text(0, bytes + 1), -1);
            Calls.due("exchanged " + bytes, c.x.change(0, 2, 0, 1), bytes + 1 > 1200 ? -3 : 1);
            Calls.due("twice a line of 2 " + bytes, c.x.change(0, 1, 0, 0), bytes + 3 > 1200 ? -3 : 2);
            Calls.due("one byte more " + bytes, c.x.change(0, 3, 0, 1), bytes + 2 > 1200 ? -3 : bytes == 1197 ? 3 : 2);
            Calls.due("one byte fewer " + bytes, c.x.change(0, 3, 1, 0) >= 0 ? 1 : 0, 1);
            Calls.due("a line fewer " + bytes, c.x.change(0, 0, 0, 0) >= 0 ? 1 : 0, 1);
            Calls.due("the long one twice", c.x.change(0, 1, 2, 0), -3);
            Calls.due("the long one for another", c.x.change(0, 3, 0, 2), -3);
            Calls.due("but a line that is none", c.x.change(0, 3, 0, 3), -1);
        }
        Calls c = new Calls();
        trial(c, "x|".repeat(58) + RUN);
        Calls.due("59 and one", c.x.change(0, 1, 0, 0), 1);
        Calls.due("60 and one", c.x.change(1, 1, 0, 0), -3);
        for (int way = 0; way < 4; way++) {
            if (way != 1) {
                Calls.due("60 by " + way, c.x.change(1, way, 58, 0) >= 0 ? 1 : 0, 1);
            }
        }
        for (int t = c.x.count(0); t < 40; t++) {
            Calls.due("one more", c.x.change(1, 0, 0, 0), t);
        }
        Calls.due("there are 40", c.x.change(1, 0, 0, 0), -3);
        Calls.due("40", c.x.count(0), 40);
    }

    /** text(): "Byte i (0 .. 255) of a trial's text, its lines with a 10 behind each". */
    private static void textsToTheEnd() {
        Calls c = new Calls();
        String told = "x" + " ".repeat(1200 - RUN.length() - 2) + "|" + RUN;
        Calls.due("1200 bytes", trial(c, told), 0);
        int[] at = {0, 1, 255, 256, 1187, 1188, 1199, 1200};
        int[] due = {'x', ' ', ' ', ' ', 10, 'r', 'm', 10};
        for (int i = 0; i < at.length; i++) {
            Calls.due("byte " + at[i], c.x.text(0, at[i]), due[i]);
        }
        for (int i : new int[] {-1, 1201, Integer.MIN_VALUE, Integer.MAX_VALUE}) {
            Calls.due("byte " + i, c.x.text(0, i), -1);
        }
        // a second trial stands for itself
        trial(c, "y|" + RUN);
        Calls.due("its first", c.x.text(1, 0), 'y');
        Calls.due("its last", c.x.text(1, 14), 10);
        Calls.due("behind it", c.x.text(1, 15), -1);
        Calls.due("the first one", c.x.text(0, 0), 'x');
        for (int b = 0; b < 256; b++) {
            if (b != 10 && b % 3 == 0) {
                Calls one = new Calls();
                trial(one, "x #" + (char) b + "|" + RUN);
                Calls.due("byte " + b, one.x.text(0, 3), b);
            }
        }
    }

    /** count(): "0 trials, 1 steps left, 2 bytes on the TAPE". */
    private static void counted() {
        Calls c = new Calls();
        int[] due = {0, 60000, 0};
        for (int what = 0; what < 3; what++) {
            Calls.due("count " + what, c.x.count(what), due[what]);
        }
        trial(c, RUN);
        c.tape("abc");
        Calls.due("trials", c.x.count(0), 1);
        Calls.due("bytes", c.x.count(2), 3);
        Calls.due("least", c.x.least(), 1);
        Calls.due("the TAPE is not taken", c.x.count(2), 3);
    }
}
