/** Promises 13 to 16: trials, their outcomes, what they meet and find, the stock made small, trials shrunk and changed. */
public final class TrialsTest {
    private static final String ONE = "class A : Thing|method static f()num|room 2 0|num 1|ndone|end|run A.f()num";

    public static void main(String[] args) {
        told();
        toldToItsEnd();
        refused();
        limits();
        outcomes();
        meetings();
        findings();
        holes();
        smallStock();
        shrunk();
        changed();
        Calls.end();
    }

    private static int trial(Calls c, String told) {
        return c.trial(told.replace('|', '\n'));
    }

    private static String text(Calls c, int trial) {
        StringBuilder s = new StringBuilder();
        for (int i = 0; c.x.text(trial, i) >= 0; i++) {
            s.append((char) c.x.text(trial, i));
        }
        return s.toString();
    }

    private static void told() {
        Calls c = new Calls();
        Calls.due("the first", trial(c, "# no words|  |class A : Thing # here||end|  run A.f()num"), 0);
        Calls.due("place", c.x.place(), -2);
        Calls.due("the tape is empty", c.x.count(2), 0);
        Calls.due("one", c.x.count(0), 1);
        Calls.same("its text", text(c, 0), "class A : Thing # here\nend\n  run A.f()num\n");
        Calls.due("text -1", c.x.text(0, -1), -1);
        Calls.due("its last byte", c.x.text(0, 41), '\n');
        Calls.due("behind it", c.x.text(0, 42), -1);
        Calls.due("text 256", c.x.text(0, 256), -1);
        Calls.due("text of none", c.x.text(1, 0), -1);
        Calls.due("the second", trial(c, "run A.f()num"), 1);
        Calls.due("outcome of none", c.x.outcome(2, 0, 0), -1);
        Calls.due("outcome of none", c.x.outcome(-1, 0, 0), -1);
        Calls.due("breaks", c.x.outcome(0, 256, 0), -1);
        Calls.due("what", c.x.outcome(0, 0, 2), -1);
        Calls.due("meets of none", c.x.meets(2), -1);
        Calls.due("finds of none", c.x.finds(2, 0), -1);
        Calls.due("breaks", c.x.finds(0, -1), -1);
    }

    private static void toldToItsEnd() {
        Calls c = new Calls();
        trial(c, ("# " + "x".repeat(50) + "|").repeat(4) + "class " + "A".repeat(12) + " : Thing # " + "y".repeat(250) + "z|end|run A.f()num");
        Calls.due("byte 255", c.x.text(0, 255), 'y');
        Calls.due("byte 256", c.x.text(0, 256), 'y');
        Calls.due("the line's last", c.x.text(0, 279), 'z');
        Calls.due("its 10", c.x.text(0, 280), 10);
        Calls.due("the text's last", c.x.text(0, 297), 10);
        Calls.due("behind it", c.x.text(0, 298), -1);
        String longest = "x" + " ".repeat(1200 - "x|run A.f()num".length()) + "|run A.f()num";
        Calls.due("1200 bytes", trial(c, longest), 1);
        Calls.due("the last that was fed", c.x.text(1, 1199), 'm');
        Calls.due("its last line has a 10, too", c.x.text(1, 1200), 10);
        Calls.due("behind all", c.x.text(1, 1201), -1);
        Calls.due("far behind", c.x.text(1, Integer.MAX_VALUE), -1);
        Calls.due("least", c.x.text(1, Integer.MIN_VALUE), -1);
        trial(c, "x #" + "\u0080\u00ff\u0000".repeat(100) + "|run A.f()num");
        Calls.due("128 without a sign", c.x.text(2, 3), 128);
        Calls.due("255 without a sign", c.x.text(2, 301), 255);
        Calls.due("0", c.x.text(2, 302), 0);
    }

    private static void refused() {
        Calls c = new Calls();
        refused(c, "^");
        refused(c, "# nothing|  ^");
        refused(c, "class A : Thing|^end");
        refused(c, "run A.f()num|^end|#");
        refused(c, "run A.f(num)num : ^|");
        refused(c, "run ^num.f()num");
        refused(c, "run A.f()num ^@");
        refused(c, "class @|^runA.f()num");
        Calls.due("classes are not looked at", trial(c, "@ so|run A.f()num"), 0);
        Calls.due("so it meets 1", c.x.meets(0), 1);
    }

    private static void refused(Calls c, String told) {
        Calls.due(told, trial(c, told.replace("^", "")), -11);
        Calls.due("place of " + told, c.x.place(), told.indexOf('^'));
        Calls.due("none came", c.x.count(0), 0);
        Calls.due("the tape is empty", c.x.count(2), 0);
    }

    private static void limits() {
        Calls c = new Calls();
        String run = "run A.f()num";
        Calls.due("60 lines", trial(c, "x|".repeat(59) + "||||" + run), 0);
        Calls.due("61 lines", trial(c, "x|".repeat(60) + run), -3);
        Calls.due("the tape stays", c.x.count(2), 132);
        c.x.cut(132);
        Calls.due("FULL is asked first", trial(c, "x|".repeat(61)), -3);
        c.x.cut(122);
        Calls.due("1200 bytes", trial(c, "#".repeat(1187) + "|" + run), 1);
        Calls.due("1201 bytes", trial(c, "#".repeat(1188) + "|" + run), -3);
        c.x.cut(1201);
        for (int i = 2; i < 40; i++) {
            Calls.due("trial " + i, trial(c, run), i);
        }
        Calls.due("a 41st", trial(c, run), -3);
        Calls.due("also one that is none", c.x.trial(), -3);
        c.x.cut(c.x.count(2));
        Calls.due("change has no room, too", c.x.change(0, 0, 0, 0), -3);
        Calls.due("BAD before FULL", c.x.change(0, 4, 0, 0), -1);
    }

    private static void outcome(int kind, int number, String told) {
        Calls c = new Calls();
        trial(c, told);
        Calls.due("kind of " + told, c.x.outcome(0, 0, 0), kind);
        Calls.due("number of " + told, c.x.outcome(0, 0, 1), number);
        Calls.due("no steps of the house", c.x.count(1), 60000);
    }

    private static void outcomes() {
        String begin = "class A : Thing|field static x num|method static f()";
        outcome(1, 1, "class A : Thing|run A.f()num");
        outcome(1, 2, "class Fault : Thing|end|run A.f()num");
        outcome(2, 1, ONE);
        outcome(3, 0, begin + "none|room 1 0|done|end|run A.f()none");
        outcome(3, 0, begin + "row|room 1 0|null|rdone|end|run A.f()row");
        outcome(3, 1, begin + "row|room 1 0|num 1|newrow|rdone|end|run A.f()row");
        outcome(3, 2, begin + "Thing|room 2 0|new Thing|dup|special Thing.<make>()none|rdone|end|run A.f()Thing");
        outcome(4, 3, begin + "num|room 2 0|num 1|num 0|div|ndone|end|run A.f()num");
        outcome(4, 5011, "run A.f()num");
        outcome(4, 5213, begin + "num|room 2 0|num 1|ndone|end|run A.f()none");
        outcome(4, 3117, begin + "num|room 2 0|pop|num 1|ndone|end|run A.f()num");
        outcome(4, 99, begin + "num|room 2 0|new E|dup|special E.<make>()none|throw|end|class E : Fault|method <make>()none|room 1 1"
            + "|rload 0|special Fault.<make>()none|done|end|run A.f()num");
        outcome(4, 5314, "class A : Thing|method private static f()none|room 0 0|done|end|run A.f()none");
        String loop = "class A : Thing|method static f(num)num|room 1 1|frame num;|L: inc 0 -1|nload 0|ifg L|nload 0|ndone|end|run A.f(num)num : ";
        outcome(2, 0, loop + "99");
        outcome(5, 0, loop + "100");
        outcome(2, -6, loop + "-5");
    }

    private static void meetings() {
        Calls c = new Calls();
        trial(c, ONE);
        trial(c, "run A.f()num");
        trial(c, "class Thing : Fault|end|run A.f()num");
        trial(c, "class A : Thing|method static f()none|room 2 0|num 1|num 0|div|pop|done|end|run A.f()none");
        int[] due = {0, 50, 2, 0};
        for (int t = 0; t < 4; t++) {
            Calls.due("meets " + t, c.x.meets(t), due[t]);
        }
    }

    private static final String FINAL = "final abstract class A : Thing|method static f()num|room 2 0|num 1|ndone|end|run A.f()num";
    private static final String HIDDEN = "class B : Thing|field private static x num = 3|end|class A : Thing|method static f()num|room 2 0|sget B.x num|ndone|end|run A.f()num";

    private static void findings() {
        Calls c = new Calls();
        trial(c, FINAL);
        trial(c, HIDDEN);
        for (int b = 0; b < 256; b++) {
            Calls.due("finds 4 with " + b, c.x.finds(0, b), b & 1);
        }
        c = new Calls();
        trial(c, FINAL);
        trial(c, HIDDEN);
        for (int b = 0; b < 256; b++) {
            Calls.due("finds 53 with " + b, c.x.finds(1, b), b >> 5 & 1);
        }
        Calls.due("with it", c.x.outcome(1, 32, 0), 2);
        Calls.due("x", c.x.outcome(1, 32, 1), 3);
        Calls.due("without it", c.x.outcome(1, 255 - 32, 1), 5314);
    }

    private static void holes() {
        Calls c = new Calls();
        int n = 0;
        for (int rule = 1; rule < 60; rule++) {
            if (rule <= 14 || (rule >= 20 && rule <= 25) || (rule >= 30 && rule <= 43) || rule >= 50) {
                Calls.due("hole " + n, c.x.hole(n), rule);
                n++;
            }
        }
        Calls.due("44 rules", n, 44);
        Calls.due("no more", c.x.hole(44), -2);
        Calls.due("below", c.x.hole(-1), -1);
        trial(c, "@|run A.f()num");
        trial(c, "run A.f()num");
        Calls.due("1 is none", c.x.hole(0), 2);
        Calls.due("50 is none", c.x.hole(33), 51);
        Calls.due("42 are left", c.x.hole(41), 59);
        Calls.due("no more", c.x.hole(42), -2);
    }

    private static void smallStock() {
        Calls c = new Calls();
        Calls.due("nothing", c.x.least(), 0);
        Calls.due("nothing", c.x.fewest(), 0);
        trial(c, ONE);
        Calls.due("it meets and finds nothing", c.x.fewest(), 0);
        trial(c, "run A.f()num");
        trial(c, "final abstract class A : Fault|end|run B.f()num");
        trial(c, FINAL.replace("A.f()num", "B.f()num"));
        trial(c, HIDDEN);
        trial(c, "run B.f()num");
        trial(c, HIDDEN.replace("num = 3", "num = 4"));
        // what they do: -, 50, 4 and its break, the same, 53 and its break, 50, 53 and its break
        Calls.due("fewest", c.x.fewest(), 3);
        Calls.due("from the last one on", c.x.least(), 3);
        Calls.due("the 50", c.x.meets(0), 50);
        Calls.due("the 4", c.x.meets(1), 4);
        Calls.due("the 53", c.x.meets(2), 53);
        Calls.due("it is the first of them", c.x.outcome(2, 32, 1), 3);
        Calls.due("again", c.x.least(), 3);
        c = new Calls();
        String both = "class B : Thing|field private static x num = 3|field static final y num = 2|end|class A : Thing|method static f()num|room 2 0"
            + "|num 7|sput B.y num|sget B.x num|ndone|end|run A.f()num";
        trial(c, both);
        trial(c, HIDDEN);
        trial(c, both.replace("|num 7|sput B.y num", "").replace("end|class A", "end|class C : B|end|class A"));
        trial(c, both.replace("|sget B.x num", "|num 5"));
        // the first meets 54 and finds its break alone, as 54 comes before 53
        Calls.due("finds 54", c.x.finds(0, 64), 1);
        Calls.due("finds 53", c.x.finds(0, 32), 0);
        Calls.due("both", c.x.finds(0, 96), 1);
        Calls.due("fewest", c.x.fewest(), 2);
        Calls.due("least", c.x.least(), 2);
    }

    private static void shrunk() {
        Calls c = new Calls();
        trial(c, "class A : Thing|field x num|method static f()num|room 2 0|nop|num 1|nop|ndone|end|run A.f()num");
        Calls.due("shrunk", c.x.shrink(0, 0), 6 + 1);
        Calls.same("its text", text(c, 0), "class A : Thing\nmethod static f()num\nroom 2 0\nnum 1\nndone\nend\nrun A.f()num\n");
        Calls.due("no more", c.x.shrink(0, 255), 7);
        trial(c, "class B : Thing|field private static x num = 3|field static y num|end|class A : Thing|method static f()num|room 2 0|nop|sget B.x num|ndone|end|run A.f()num");
        Calls.due("it has to find 53 still", c.x.shrink(1, 32), 10);
        Calls.due("finds", c.x.finds(1, 32), 1);
        trial(c, HIDDEN);
        Calls.due("without that", c.x.shrink(2, 0), 10);
        Calls.due("meets", c.x.meets(2), 53);
        trial(c, "class A : Thing|@|end|run A.f()num");
        Calls.due("one line with 1", c.x.shrink(3, 0), 2);
        Calls.same("the first line that can go is the last", text(c, 3), "class A : Thing\nrun A.f()num\n");
        Calls.due("breaks", c.x.shrink(0, 256), -1);
        Calls.due("none", c.x.shrink(4, 0), -1);
        Calls.due("how many there are", c.x.count(0), 4);
    }

    private static void changed() {
        Calls c = new Calls();
        trial(c, "a|b|c|run A.f()num");
        String[] due = {"a\nc\n", "a\nb\nb\nc\n", "a\nc\nb\n", "a\nc\nc\n"};
        for (int way = 0; way < 4; way++) {
            Calls.due("way " + way, c.x.change(0, way, 1, 2), way + 1);
            Calls.same("text " + way, text(c, way + 1), due[way] + "run A.f()num\n");
        }
        Calls.due("j is no line that it names", c.x.change(0, 0, 0, 1), 5);
        Calls.due("exchanged with itself", c.x.change(0, 2, 0, 0), 6);
        Calls.same("the same", text(c, 6), text(c, 0));
        Calls.due("the run is no line", c.x.change(0, 0, 3, 0), -1);
        Calls.due("line -1", c.x.change(0, 1, -1, 0), -1);
        Calls.due("j 3", c.x.change(0, 2, 0, 3), -1);
        Calls.due("j -1", c.x.change(0, 3, 0, -1), -1);
        Calls.due("way -1", c.x.change(0, -1, 0, 0), -1);
        Calls.due("trial 7", c.x.change(7, 0, 0, 0), -1);
        Calls.due("all lines can go", c.x.change(1, 0, 0, 0), 7);
        Calls.due("all lines", c.x.change(7, 0, 0, 0), 8);
        Calls.same("run alone", text(c, 8), "run A.f()num\n");
        Calls.due("none is left", c.x.change(8, 0, 0, 0), -1);
        Calls.due("60 lines", trial(c, "x|".repeat(59) + "run A.f()num"), 9);
        Calls.due("61 are too many", c.x.change(9, 1, 0, 0), -3);
        Calls.due("60 are not", c.x.change(9, 3, 0, 1), 10);
        int rest = 1200 - "y|z |run A.f()num".length();
        Calls.due("1199 bytes", trial(c, "y|z" + " ".repeat(rest) + "|run A.f()num"), 11);
        Calls.due("with a last 10 1200", c.x.change(11, 2, 0, 1), 12);
        Calls.due("1200 bytes", trial(c, "y|z" + " ".repeat(rest + 1) + "|run A.f()num"), 13);
        Calls.due("with a last 10 1201", c.x.change(13, 2, 0, 1), -3);
        Calls.due("a line less", c.x.change(13, 0, 0, 0), 14);
    }
}
