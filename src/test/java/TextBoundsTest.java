/** Section 1 and promises 1 to 3, sentence by sentence: the last that is good and the first that is not. */
public final class TextBoundsTest {
    private static final String OPEN = "class A : Thing|";
    private static final String[] RESERVED = {"num", "row", "none", "null", "unset", "unmade", "any"};

    public static void main(String[] args) {
        tapeHasUpTo6000Bytes();
        bytesThatBeginNoWord();
        bytesOfNames();
        lengthsOfNames();
        numbers();
        wordsWithNothingBetween();
        linesWithoutWords();
        namesOfClasses();
        typesAndResults();
        flagsOnce();
        whatCanStandWhere();
        behindAMethod();
        rooms();
        labels();
        frames();
        handlers();
        instructions();
        localsOfInstructions();
        rule2();
        rule3();
        rule4();
        rule5();
        rule6();
        rule7();
        rule8To10();
        rule11();
        rule12();
        rule13();
        rule14();
        leastOfOneLine();
        firstLine();
        nothingComes();
        goodBehindRefused();
        numbersAreNoWords();
        signsOfMethods();
        typesOfMethods();
        brokenRules();
        Calls.end();
    }

    private static void refused(int rule, String told) {
        Calls.refused(rule, told);
    }

    private static void good(String told) {
        Calls.good(1, told);
    }

    /** A class with a static method of these lines. */
    private static String body(String lines) {
        return OPEN + "method static f()none|room 9 9|" + lines + "|end";
    }

    /** The tape's bytes, as a trial of them tells them: the line behind them is a run. */
    private static String told(Calls c) {
        c.tape("\nrun A.f()num");
        int t = c.x.trial();
        StringBuilder s = new StringBuilder();
        for (int i = 0; c.x.text(t, i) != 10 && c.x.text(t, i) >= 0; i++) {
            s.append((char) c.x.text(t, i));
        }
        return s.toString();
    }

    /** "THE TAPE has up to 6000 bytes"; feed, "the highest of each int first", and cut at their ends. */
    private static void tapeHasUpTo6000Bytes() {
        ClassWorks x = new ClassWorks();
        Calls.due("it is empty at first", x.count(2), 0);
        Calls.due("nothing to cut", x.cut(1), -1);
        Calls.due("cut(0)", x.cut(0), 0);
        for (int i = 1; i < 300; i++) {
            Calls.due("feed " + i, x.feed(0, 0, 0, 0, 0), 20 * i);
        }
        Calls.due("5980 and 20", x.feed(0, 0, 0, 0, 0), 6000);
        Calls.due("6000 and 20", x.feed(1, 1, 1, 1, 1), -3);
        Calls.due("nothing came", x.count(2), 6000);
        Calls.due("cut 6001", x.cut(6001), -1);
        Calls.due("cut -1", x.cut(-1), -1);
        Calls.due("cut all that an int has", x.cut(Integer.MAX_VALUE), -1);
        Calls.due("cut below all", x.cut(Integer.MIN_VALUE), -1);
        Calls.due("nothing went", x.count(2), 6000);
        Calls.due("cut 19", x.cut(19), 5981);
        Calls.due("5981 and 20", x.feed(1, 1, 1, 1, 1), -3);
        Calls.due("cut 1", x.cut(1), 5980);
        Calls.due("5980 and 20", x.feed(1, 1, 1, 1, 1), 6000);
        Calls.due("cut 6000", x.cut(6000), 0);
        Calls c = new Calls();
        c.x.feed('a' << 24 | 'b' << 16 | 'c' << 8 | 'd', 'e' << 24 | 'f' << 16 | 'g' << 8 | 'h', 'i' << 24 | 'j' << 16 | 'k' << 8 | 'l',
            'm' << 24 | 'n' << 16 | 'o' << 8 | 'p', 'q' << 24 | 'r' << 16 | 's' << 8 | 't');
        Calls.same("the highest byte of each int first", told(c) + "\n", "abcdefghijklmnopqrst\n");
        c.x.feed(-1, 0x80808080, 0x7f7f7f7f, 0x01020304, 0x20202020);
        c.x.cut(4);
        Calls.same("bytes above 127 and below 32", told(c) + "\n", "\u00ff".repeat(4) + "\u0080".repeat(4) + "\u007f".repeat(4) + "\u0001\u0002\u0003\u0004\n");
        c.tape("abcdef");
        Calls.due("the last 4 go", c.x.cut(4), 2);
        c.tape("xy");
        Calls.same("what comes then stands behind the others", told(c) + "\n", "abxy\n");
        // 6000 bytes are one text
        c.x.world(0);
        c.tape("#".repeat(5979) + "\nclass A : Thing\nend\n");
        Calls.due("6000 bytes", c.x.count(2), 6000);
        Calls.due("are taken", c.x.define(0), 1);
        c = new Calls();
        c.x.world(0);
        c.tape("#".repeat(5982) + "\nclass B : Thing\n@");
        Calls.due("refused at the 6000th byte", c.x.define(0), -11);
        Calls.due("its place", c.x.place(), 5999);
    }

    /** The tape's bytes 10 and 32 .. 126 can be in texts, "others can be fed, and begin no word". */
    private static void bytesThatBeginNoWord() {
        for (int b = 0; b < 256; b++) {
            char one = (char) b;
            boolean passed = b == 10 || b == 32 || b == '#';
            Calls c = new Calls();
            c.x.world(0);
            Calls.due("a line of byte " + b, c.define(0, "class A : Thing\n" + one + "\nend"), passed ? 1 : -11);
            Calls.due("its place", c.x.place(), passed ? -2 : 16);
            boolean lacks = b == ',';
            Calls.due("byte " + b + " behind a line", c.define(0, "class B : Thing " + one + "\nend"), passed ? 1 : -11);
            Calls.due("its place", c.x.place(), passed ? -2 : lacks ? 17 : 16);
            Calls.due("byte " + b + " behind #", c.define(0, "class C : Thing # " + one + "\nend"), 1);
            boolean letter = b == '_' || b >= 'a' && b <= 'z' || b >= 'A' && b <= 'Z' || b >= '0' && b <= '9';
            // a letter makes it the name of a class, = wants a number
            Calls.due("byte " + b + " behind a word", c.define(0, "class D : Thing\nfield x num" + one + "\nend"), passed || letter ? 1 : -11);
            Calls.due("its place", c.x.place(), passed || letter ? -2 : b == '=' ? 28 : 27);
        }
    }

    /** NAMES: "a letter or _, then letters, digits and _". */
    private static void bytesOfNames() {
        for (int b = 0; b < 256; b++) {
            char one = (char) b;
            boolean letter = b == '_' || b >= 'a' && b <= 'z' || b >= 'A' && b <= 'Z';
            boolean digit = b >= '0' && b <= '9';
            Calls c = new Calls();
            c.x.world(0);
            Calls.due("byte " + b + " as a name", c.define(0, "class " + one + " : Thing\nend"), letter ? 1 : -11);
            Calls.due("byte " + b + " second in a name", c.define(0, "class A" + one + ": Thing\nend"), letter || digit || b == 32 ? 1 : -11);
            Calls.due("byte " + b + " last in a name", c.define(0, "class Bcd" + one + ": Thing\nend"), letter || digit || b == 32 ? 1 : -11);
            Calls.due("byte " + b + " as a number", c.define(0, "class E_1 : Thing\nfield static x num = " + one + "\nend"), digit ? 1 : -11);
            Calls.due("byte " + b + " second in a number", c.define(0, "class F_1 : Thing\nfield static x num = 1" + one + "\nend"),
                digit || b == 32 || b == 10 || b == '#' ? 1 : -11);
            if (letter) {
                Calls.due("it is that letter", c.x.name(0, 21, 0, -1, 0), b);
                Calls.due("and one", c.x.name(0, 21, 0, -1, 1), -1);
            }
        }
        Calls c = Calls.good(2, "class a : Thing|end|class A : a|end");
        Calls.due("small and great letters are others", c.x.told(0, 22, 0), 21);
    }

    /** "a row of more than 12 is none". */
    private static void lengthsOfNames() {
        for (int n = 1; n <= 12; n++) {
            Calls c = Calls.good(1, "class " + "x".repeat(n) + " : Thing|end");
            Calls.due("its last letter", c.x.name(0, 21, 0, -1, n - 1), 'x');
            Calls.due("its end", c.x.name(0, 21, 0, -1, n), -1);
        }
        good("class Abcdefghij_1 : Thing|end");
        for (int n = 13; n <= 26; n += 13) {
            refused(1, "class ^" + "x".repeat(n) + " : Thing|end");
            refused(1, OPEN + "field ^" + "x".repeat(n) + " num|end");
            refused(1, body("^" + "x".repeat(n) + ": done"));
        }
        refused(1, "class ^_bcdefghij_12 : Thing|end");
        good(OPEN + "field abcdefghijkl mnopqrstuvwx|method static abcdefghijkl()none|room 0 0|abcdefghijkl: jump abcdefghijkl|end");
        refused(1, body("jump ^abcdefghijklm"));
        refused(1, body("new ^abcdefghijklm"));
    }

    /** NUMBERS: "perhaps - , then all digits that follow: -2147483648 .. 2147483647, not more than 10". */
    private static void numbers() {
        String[] good = {"0", "-0", "7", "-7", "2147483647", "-2147483648", "0000000007", "-0000000007", "0000000000", "1000000000"};
        String[] written = {"0", "0", "7", "-7", "2147483647", "-2147483648", "7", "-7", "0", "1000000000"};
        for (int i = 0; i < good.length; i++) {
            Calls c = Calls.good(1, OPEN + "field static x num = " + good[i] + "|end");
            Calls.same(good[i], c.print(0, 21), "class A: Thing\n field static x num = " + written[i] + "\nend\n");
            good(body("num " + good[i] + "|inc 0 " + good[i] + "|L: pick " + good[i] + " L"));
        }
        String[] none = {"2147483648", "-2147483649", "00000000007", "-00000000007", "9999999999", "-9999999999", "12345678901", "4294967297",
            "10000000000000000000000", "-", "--1", "+1", "- 1", "-a", ".5"};
        for (String one : none) {
            refused(1, OPEN + "field static x num = ^" + one + "|end");
            refused(1, body("num ^" + one));
            refused(1, body("inc 0 ^" + one));
            refused(1, body("pick ^" + one + " L"));
            refused(1, OPEN + "method f()none|room ^" + one + " 1|done|end");
        }
        refused(1, OPEN + "field static x num = 1^.5|end");
        refused(1, OPEN + "field static x num = 1^-1|end");
        refused(1, OPEN + "field static x num = 0^x10|end");
        refused(1, OPEN + "field static x num =^|end");
        refused(1, OPEN + "field static x num = ^a|end");
    }

    /** Words: "the longest that there are, with blanks (32) between or nothing". */
    private static void wordsWithNothingBetween() {
        good("final class A:B,C,D#E|field static x num=-5|field y A|method private<make>(num,row)none#|room 2 3|a:b:nload 1|end");
        good(OPEN + "method static f(num,row)none|room 3 3|a:num-5|b:pick-5a,b|frame num,num;row,null|c:inc 0-5|call A.<make>()none|static A.f(num,row)none|fget A.x num|handler a b c any|end");
        refused(1, body("^num5"));
        refused(1, body("^nload0"));
        refused(1, body("nload 0^nop"));
        refused(1, body("jump^"));
        refused(1, "^finalclass A : Thing|end");
        refused(1, "^classA : Thing|end");
        refused(1, OPEN + "method ^< make>()none|end");
        refused(1, OPEN + "method ^<make >()none|end");
        refused(1, OPEN + "method ^<Make>()none|end");
        refused(1, OPEN + "method ^<make|end");
        refused(1, OPEN + "method ^<|end");
        refused(1, OPEN + "method ^<>()none|end");
        refused(1, OPEN + "method ^<startx>()none|end");
        refused(1, OPEN + "method ^<mak>()none|end");
        refused(1, OPEN + "method <make>^<make>()none|end");
        refused(1, OPEN + "method <make>^x()none|end");
        good("  class   A  :   Thing  ,  I |   end   ");
    }

    /** "from # on nothing counts in a line. A line without words is passed over." */
    private static void linesWithoutWords() {
        String[] passed = {"", " ", "      ", "#", "# end", "  # @ \u0001", "##"};
        for (String one : passed) {
            good(one + "|" + OPEN + "#|field x num#|" + one + "|method f()none|" + one + "|room 1 1 # x|" + one + "|a:|" + one
                + "|frame A;|" + one + "|done #|" + one + "|handler a b a any|" + one + "|b:|" + one + "|end # end|" + one);
            Calls c = new Calls();
            c.x.world(0);
            Calls.due("a text of " + one, c.define(0, one), 0);
            Calls.due("its place", c.x.place(), -2);
        }
        Calls c = new Calls();
        c.x.world(0);
        Calls.due("an empty TAPE", c.x.define(0), 0);
        refused(1, "class A #: Thing^|end");
        good("class A : Thing|end#");
        good("class A : Thing|end");
        good("class A : Thing|end|");
    }

    /** "num row none null unset unmade any are no names of classes (nor kinds but as told)". */
    private static void namesOfClasses() {
        for (String one : RESERVED) {
            refused(1, "class ^" + one + " : Thing|end");
            refused(1, "class A : ^" + one + "|end");
            refused(1, "class A : Thing, ^" + one + "|end");
            refused(1, body("new ^" + one + "|done"));
            refused(1, body("cast ^" + one + "|done"));
            refused(1, body("is ^" + one + "|done"));
            refused(1, body("fget ^" + one + ".x num|done"));
            refused(1, body("sput ^" + one + ".x num|done"));
            refused(1, body("call ^" + one + ".f()num|done"));
            if (!one.equals("any")) {
                refused(1, body("a: done|b:|handler a b a ^" + one));
            }
            boolean kind = !one.equals("none") && !one.equals("any");
            if (kind) {
                good(body("frame " + one + ", " + one + "; " + one + ", " + one + "|done"));
            } else {
                refused(1, body("frame ^" + one + ";|done"));
                refused(1, body("frame num, ^" + one + ";|done"));
                refused(1, body("frame ; ^" + one + "|done"));
            }
            // all other names may be names of anything
            good(OPEN + "field " + one + " num|method static " + one + "()none|room 0 0|" + one + ": fget A." + one + " num|static A." + one
                + "()none|jump " + one + "|handler " + one + " L " + one + " A|L:|end");
        }
        String[] words = {"class", "field", "method", "end", "room", "frame", "handler", "nop", "run", "call", "make", "start", "x1"};
        for (String one : words) {
            good("class " + one + " : " + one + "x, " + one + "y|field " + one + " " + one + "|method static " + one + "(" + one + ")" + one + "|room 1 1|" + one
                + ": new " + one + "|fget " + one + "." + one + " " + one + "|call " + one + "." + one + "(" + one + ")" + one + "|frame " + one + "; " + one
                + "|jump " + one + "|" + one + "2:|handler " + one + " " + one + "2 " + one + " " + one + "|end");
        }
    }

    /** "A TYPE is num, row or a class's NAME; a RESULT is a type or none". */
    private static void typesAndResults() {
        for (String one : new String[] {"num", "row", "A", "Late", "Thing"}) {
            good(OPEN + "field x " + one + "|method static f(" + one + ", " + one + ")" + one + "|room 2 2|fget A.x " + one + "|call A.f(" + one + ")" + one + "|end");
        }
        for (String one : new String[] {"none", "null", "unset", "unmade", "any", "5", "<make>"}) {
            refused(1, OPEN + "field x ^" + one + "|end");
            refused(1, OPEN + "method f(^" + one + ")none|end");
            refused(1, OPEN + "method f(num, ^" + one + ")none|end");
            refused(1, body("fget A.x ^" + one));
            refused(1, body("call A.f(^" + one + ")none"));
            if (!one.equals("none")) {
                refused(1, OPEN + "method f()^" + one + "|end");
                refused(1, body("call A.f()^" + one));
            }
        }
        good(OPEN + "method static f()none|room 0 0|call A.f()none|end");
    }

    /** FLAGS: "each once at most, in any order (here and below a word that can be a FLAG is one; told a second time it is none)". */
    private static void flagsOnce() {
        refused(1, "final ^final class A : Thing|end");
        refused(1, "abstract ^abstract class A : Thing|end");
        refused(1, "face ^face class A : Thing|end");
        refused(1, "final abstract face ^final class A : Thing|end");
        refused(1, "^static class A : Thing|end");
        refused(1, "^private class A : Thing|end");
        refused(1, "final^|class A : Thing|end");
        refused(1, "class ^: Thing|end");
        String[] orders = {"final abstract face", "final face abstract", "abstract final face", "abstract face final", "face final abstract", "face abstract final"};
        for (String one : orders) {
            Calls c = new Calls();
            c.x.world(1);
            c.goodIn(0, 1, one + " class A : Thing|end");
            Calls.due(one, c.x.told(0, 21, 4), 7);
        }
        String[] words = {"final", "abstract", "face"};
        for (int i = 0; i < 3; i++) {
            Calls.due(words[i], Calls.good(1, words[i] + " class A : Thing|end").x.told(0, 21, 4), 1 << i);
        }
        String[] three = {"static final private", "static private final", "final static private", "final private static", "private static final", "private final static"};
        for (String one : three) {
            Calls c = Calls.good(1, OPEN + "field " + one + " x num|method " + one + " f()none|room 0 0|done|end");
            Calls.due("field " + one, c.x.member(0, 21, 0, 5), 7);
            Calls.due("method " + one, c.x.member(0, 21, 0, 0), 7);
        }
        String[] told = {"static", "final", "private"};
        for (int i = 0; i < 3; i++) {
            // told a second time it is the NAME
            Calls c = Calls.good(1, OPEN + "field " + told[i] + " " + told[i] + " num|method " + told[i] + " " + told[i] + "()none|room 0 1|done|end");
            Calls.due("flags of a field " + told[i], c.x.member(0, 21, 0, 5), 1 << i);
            Calls.due("flags of a method " + told[i], c.x.member(0, 21, 0, 0), 1 << i);
            Calls.due("its name", c.x.name(0, 21, 0, 0, 0), told[i].charAt(0));
            refused(1, OPEN + "field " + told[i] + " num^|end");
            refused(1, OPEN + "method " + told[i] + "^()none|end");
            refused(1, OPEN + "field " + told[i] + " " + told[i] + "^|end");
            refused(1, OPEN + "method " + told[i] + " " + told[i] + " ^" + told[i] + "()none|end");
        }
        // in a field abstract and face are no FLAGS, in a method face is none
        Calls c = Calls.good(1, "abstract class A : Thing|field abstract num|field face num|method face()none|room 0 1|done|method abstract abstract()none|end");
        Calls.due("abstract is a name", c.x.name(0, 21, 0, 0, 7), 't');
        Calls.due("abstract abstract", c.x.member(0, 21, 1, 0), 8);
        refused(1, OPEN + "method abstract^()none|end");
        refused(1, OPEN + "field abstract x ^num|end");
    }

    /** What a line can be, behind what: 1 at the first word of any other. */
    private static void whatCanStandWhere() {
        String[] lines = {"class B : Thing", "field x num", "method f()none", "room 1 1", "nop", "frame ;", "handler a a a any", "a:", "end", "run A.f()num", "x", "5", ":", "<make>"};
        for (int i = 0; i < lines.length; i++) {
            if (i != 0) {
                refused(1, "^" + lines[i]);
                refused(1, "class A : Thing|end|^" + lines[i]);
            }
            if (i != 1 && i != 2 && i != 8) {
                refused(1, OPEN + "^" + lines[i] + "|end");
                refused(1, OPEN + "field y num|^" + lines[i] + "|end");
                refused(1, "abstract class A : Thing|method abstract m()none|^" + lines[i] + "|end");
            }
            if (i != 3) {
                refused(1, OPEN + "method g()none|^" + lines[i] + "|end");
            }
        }
        refused(1, OPEN + "method g()none|room 1 1|^room 1 1|end");
        refused(1, OPEN + "method g()none|room 1 1|nop|^room 1 1|end");
        refused(1, OPEN + "method g()none|room 1 1|nop|^class B : Thing|end");
        refused(1, OPEN + "method g()none|room 1 1|nop|^final class B : Thing|end");
        refused(1, OPEN + "method g()none|room 1 1|nop|^run A.f()num|end");
        refused(1, OPEN + "method g()none|room 1 1|nop|^5|end");
        refused(1, OPEN + "method g()none|room 1 1|nop|^: nop|end");
        refused(1, OPEN + "method g()none|room 1 1|nop|^<make>: nop|end");
        // fields and methods in any order
        good(OPEN + "method f()none|room 0 1|done|field x num|method g()none|room 0 1|done|field y num|end");
        good("abstract class A : Thing|method abstract f()none|field x num|method abstract g()none|method h()none|room 0 1|done|end");
        // a field or a method ends the one before: what is in a method can't stand behind it
        for (int i : new int[] {3, 4, 5, 6, 7, 10}) {
            refused(1, OPEN + "method g()none|room 1 1|nop|field x num|^" + lines[i] + "|end");
            refused(1, OPEN + "method g()none|room 1 1|nop|field x num|field y num|^" + lines[i] + "|end");
            refused(1, "abstract class A : Thing|method g()none|room 1 1|nop|method abstract h()none|^" + lines[i] + "|end");
        }
        // the text's end before end, at its place
        refused(1, "class A : Thing^");
        refused(1, "class A : Thing|^");
        refused(1, OPEN + "field x num|# x^");
        refused(1, OPEN + "method f()none^");
        refused(1, OPEN + "method f()none|room 1 1^");
        refused(1, OPEN + "method f()none|room 1 1|nop^");
        refused(1, OPEN + "method f()none|room 1 1|nop|L:|^");
        refused(1, "abstract class A : Thing|method abstract f()none^");
        refused(1, "class B : Thing|end|class A : Thing|   ^");
    }

    /** A class's end, its line and what stands behind words that are whole. */
    private static void behindAMethod() {
        refused(1, OPEN + "end ^end");
        refused(1, OPEN + "end ^;");
        refused(1, OPEN + "end^:");
        refused(1, OPEN + "field x num ^num|end");
        refused(1, OPEN + "field x^|end");
        refused(1, OPEN + "field^|end");
        refused(1, OPEN + "field x ^= 1|end");
        refused(1, OPEN + "field static x num = 1 ^2|end");
        refused(1, OPEN + "field static x num ^1|end");
        refused(1, OPEN + "method^|end");
        refused(1, OPEN + "method f^|end");
        refused(1, OPEN + "method f(^|end");
        refused(1, OPEN + "method f(num^|end");
        refused(1, OPEN + "method f(num,^|end");
        refused(1, OPEN + "method f(num,^)none|end");
        refused(1, OPEN + "method f(^,num)none|end");
        refused(1, OPEN + "method f(num^;num)none|end");
        refused(1, OPEN + "method f()^|end");
        refused(1, OPEN + "method f()none ^num|end");
        refused(1, OPEN + "method f^:()none|end");
        refused(1, OPEN + "method ^5()none|end");
        refused(1, "class^|end");
        refused(1, "class A^|end");
        refused(1, "class A ^, B|end");
        refused(1, "class A :^|end");
        refused(1, "class A : B,^|end");
        refused(1, "class A : B ^C|end");
        refused(1, "class A : B, C ^;|end");
        refused(1, "class A : B,^,C|end");
        refused(1, "class A : ^, C|end");
        refused(1, "class A : ^5|end");
    }

    /** room: STACK and LOCALS, "each 0 .. 20". */
    private static void rooms() {
        for (int n = 0; n <= 20; n++) {
            Calls c = Calls.good(1, OPEN + "method static f()none|room " + n + " " + (20 - n) + "|done|end");
            Calls.due("STACK", c.x.member(0, 21, 0, 2), n);
            Calls.due("LOCALS", c.x.member(0, 21, 0, 3), 20 - n);
        }
        for (String one : new String[] {"21", "-1", "2147483647", "-2147483648", "a"}) {
            refused(1, OPEN + "method static f()none|room ^" + one + " 1|done|end");
            refused(1, OPEN + "method static f()none|room 1 ^" + one + "|done|end");
        }
        refused(1, OPEN + "method static f()none|room^|done|end");
        refused(1, OPEN + "method static f()none|room 1^|done|end");
        refused(1, OPEN + "method static f()none|room 1 1 ^1|done|end");
        refused(1, OPEN + "method static f()none|room 1^, 1|done|end");
    }

    /** "a NAME with : behind it, whatever NAME, is a LABEL here; several may stand in front, also in lines of their own". */
    private static void labels() {
        good(body("a: b: c: done"));
        good(body("a:|b: c:|d: done"));
        good(body("done|a:|b: c:"));
        good(body("a: jump a|b: jump a|jump b|c: d: jump c|jump d"));
        good(body("a: field: nop|method: end: frame: handler: room: class: run: jump end|handler field method frame any|jump handler"));
        refused(1, body("^a ;"));
        refused(1, body("a: ^b"));
        refused(1, body("a: ^:"));
        refused(1, body("a: ^frame ;|done"));
        refused(1, body("a: ^handler a b a any|b: done"));
        refused(1, body("a: ^end|done"));
        refused(1, body("a: ^field x num|done"));
        refused(1, body("a: ^room 1 1|done"));
        refused(1, body("a: ^5|done"));
        refused(1, body("nop ^a:"));
        // a label and its jump count by methods
        refused(9, OPEN + "method f()none|room 1 1|a: nop|done|method g()none|room 1 1|^jump a|end");
        Calls.good(1, OPEN + "method f()none|room 1 1|a: jump a|method g()none|room 1 1|a: jump a|end");
        String jump = "L0: jump L0\n";
        Calls c = Calls.good(1, body("x:|y: z: jump y|e:"));
        Calls.same("it tells the next instruction", c.print(0, 21), "class A: Thing\n method static f() none\n  room 9 9\n  " + jump + "end\n");
    }

    /** frame: KINDS "with , between"; "a second one for the same can't stand there". */
    private static void frames() {
        good(body("frame;|done"));
        good(body("frame num;|done"));
        good(body("frame ;num|done"));
        good(body("frame num, row, null, unset, unmade, A, Late; num, row, null, unset, unmade, A, Late|done"));
        // how many are told is asked when it is checked, not here
        good(body("frame " + "num, ".repeat(20) + "num; " + "num, ".repeat(20) + "num|done"));
        good(body("frame " + "num,".repeat(600) + "num;" + "row,".repeat(600) + "row|done"));
        refused(1, body("frame^|done"));
        refused(1, body("frame num^|done"));
        refused(1, body("frame num,^;|done"));
        refused(1, body("frame ^,num;|done"));
        refused(1, body("frame num ^num;|done"));
        refused(1, body("frame ;num,^|done"));
        refused(1, body("frame ;num^;|done"));
        refused(1, body("frame ;^,|done"));
        refused(1, body("frame ;num ^num|done"));
        refused(1, body("frame ^5;|done"));
        refused(1, body("frame ;|^frame ;|done"));
        refused(1, body("frame ;|a:|^frame ;|done"));
        refused(1, body("frame ;|handler a b a any|^frame ;|a: done|b:"));
        refused(1, body("nop|frame ;|#||^frame ;"));
        good(body("frame ;|nop|frame ;|a:|handler a b a any|nop|b:|frame ;|c:|done"));
        refused(1, OPEN + "method f()none|room 1 1|nop|frame ;|^frame ;|end");
    }

    /** handler: three LABELS and a class "or any". */
    private static void handlers() {
        good(body("handler a b c any|a: nop|b: c: done"));
        good(body("a: nop|handler a b c Late|b: c: done"));
        good(body("a: nop|b: c: done|handler a b c num_"));
        refused(1, body("a: b: done|handler^"));
        refused(1, body("a: b: done|handler a^"));
        refused(1, body("a: b: done|handler a b^"));
        refused(1, body("a: b: done|handler a b a^"));
        refused(1, body("a: b: done|handler a b a any ^any"));
        refused(1, body("a: b: done|handler a^, b a any"));
        refused(1, body("a: b: done|handler ^0 b a any"));
        refused(1, body("a: b: done|handler a b a ^;"));
        refused(1, body("a: b: done|handler a^: b a any"));
    }

    private static final String[] WHOLE = {"nop", "num -5", "null", "nload 0", "rload 0", "nstore 0", "rstore 0", "inc 0 -1", "add", "sub", "mul", "div", "rem", "neg", "and",
        "or", "xor", "shl", "shr", "pop", "dup", "dupx", "swap", "jump L", "if0 L", "ifn0 L", "ifl L", "ifge L", "ifg L", "ifle L", "eq L", "ne L", "lt L", "ge L", "gt L",
        "le L", "isnull L", "notnull L", "same L", "other L", "pick 0 L, L", "new C", "newrow", "get", "put", "size", "fget C . x num", "fput C . x row", "sget C . x C",
        "sput C . x num", "call C . m ( num , C ) none", "special C . <make> ( row ) C", "static C . m ( ) row", "facecall C . m ( C , C ) num", "cast C", "is C", "throw",
        "done", "ndone", "rdone", "enter", "leave"};

    /** Each operation wants its words, no fewer, no more and no others. */
    private static void instructions() {
        Calls.due("operations", WHOLE.length, 62);
        for (String one : WHOLE) {
            good(body("L: " + one));
            good(body("L:" + one.replaceAll(" ([.(),]) ?", "$1")));
            String[] words = one.split(" ");
            StringBuilder part = new StringBuilder(words[0]);
            for (int i = 1; i < words.length; i++) {
                // pick has one label at least, more may follow
                if (!part.toString().equals("pick 0 L")) {
                    refused(1, body("L: " + part + "^"));
                    refused(1, body("L: " + part + " # " + words[i] + "^"));
                }
                if (!words[i].equals("<make>")) {
                    refused(1, body("L: " + part + " ^<start>"));
                }
                if (!(part + " ;").startsWith("pick 0 L ;")) {
                    refused(1, body("L: " + part + " ^;"));
                }
                part.append(' ').append(words[i]);
            }
            refused(1, body("L: " + one + " ^x"));
            refused(1, body("L: " + one + " ^5"));
            refused(1, body("L: " + one + " ^;"));
            if (words.length > 1) {
                refused(1, body("L: " + one + " ^:"));
            } else {
                refused(8, OPEN + "method static f()none|room 1 1|L: " + one + " :|^end");
            }
            refused(1, body("L: ^" + words[0] + "y"));
            refused(1, body("L: ^" + words[0].substring(0, 1).toUpperCase() + words[0].substring(1)));
        }
        refused(1, body("L: pick 0^, L"));
        refused(1, body("L: pick 0 L,^,L"));
        refused(1, body("L: pick 0 L^;L"));
        refused(1, body("L: pick 0 ^5"));
        good(body("L: pick 0 L" + ", L".repeat(300)));
        refused(1, body("L: fget A.^<make> num"));
        refused(1, body("L: jump ^5"));
        refused(1, body("L: jump ^<make>"));
    }

    /** "i is a NUMBER 0 .. 19" (LOCALS are asked when it is checked). */
    private static void localsOfInstructions() {
        for (String op : new String[] {"nload", "rload", "nstore", "rstore"}) {
            good(body(op + " 0"));
            good(body(op + " 19"));
            good(body(op + " 0000000019"));
            refused(1, body(op + " ^20"));
            refused(1, body(op + " ^-1"));
            refused(1, body(op + " ^2147483647"));
            refused(1, body(op + " ^-2147483648"));
        }
        good(body("inc 0 2147483647"));
        good(body("inc 19 -2147483648"));
        refused(1, body("inc ^20 1"));
        refused(1, body("inc ^-1 1"));
        refused(1, body("inc 19 ^2147483648"));
    }

    /** 2: a class of this NAME is in the world (built-in ones, too), or before it in the text. */
    private static void rule2() {
        String[] built = {"Thing", "Fault", "NullFault", "ZeroFault", "PlaceFault", "SizeFault", "CastFault", "LockFault", "DeepFault", "RoomFault", "LinkFault", "ClassFault",
            "FieldFault", "MethodFault", "AccessFault", "KindFault", "RingFault", "CheckFault", "BodyFault", "MakeFault", "StartFault"};
        for (int i = 0; i < built.length; i++) {
            refused(2, "^class " + built[i] + " : Q|end");
            Calls c = new Calls();
            c.x.world(0);
            for (int k = 0; k < built[i].length(); k++) {
                Calls.due("the name of " + i, c.x.name(0, i, 0, -1, k), built[i].charAt(k));
            }
            Calls.due("its end", c.x.name(0, i, 0, -1, built[i].length()), -1);
        }
        good("class Thin : Thing|end");
        good("class Thing1 : Thing|end");
        Calls c = Calls.good(1, "class A : Thing|end");
        c.refusedIn(0, 2, "^class A : Thing|end");
        c.refusedIn(0, 2, "class B : Thing|end|   ^class A : Thing|end");
        refused(2, "class A : Thing|end|class B : Thing|end|^class A : Thing|end");
        refused(2, "class A : Thing|end|class B : Thing|end|^class B : Thing|end");
        c.x.world(0);
        c.goodIn(1, 1, "class A : Thing|end");
        c.x.drop(0);
        c.x.world(0);
        c.goodIn(0, 1, "class A : Thing|end");
    }

    /** 3: a field of this NAME, a method of this NAME with the same types and result is in the class already. */
    private static void rule3() {
        refused(3, OPEN + "field x num|^field x num|end");
        refused(3, OPEN + "field x num|^field static x A|end");
        refused(3, OPEN + "field x num|field y num|^field x num|end");
        refused(3, OPEN + "method f(num, A)row|room 0 3|done|^method static f(num, A)row|room 0 3|done|end");
        refused(3, "abstract class A : Thing|method abstract f()none|method abstract g()none|^method abstract f()none|end");
        refused(3, OPEN + "method <make>()none|room 0 1|done|^method <make>()none|room 0 1|done|end");
        refused(3, OPEN + "method static <start>()none|room 0 1|done|^method static <start>()none|room 0 1|done|end");
        Calls.good(1, "abstract class A : Thing|field f num|method abstract f()none|method abstract f()num|method abstract f()row|method abstract f()A|method abstract f(num)none"
            + "|method abstract f(row)none|method abstract f(num, num)none|method abstract f(num, row)none|method abstract f(row, num)none|method abstract F()none|end");
        Calls.good(1, OPEN + "method <make>()none|room 0 1|done|method <make>(num)none|room 0 2|done|method static <start>()none|room 0 0|done|end");
        Calls.good(2, "class A : Thing|field x num|end|class B : A|field x num|end");
    }

    /** 4: all FLAGS of a class, with Thing as its parent and another; all FLAGS of a method. */
    private static void rule4() {
        String[] flags = {"", "final ", "abstract ", "final abstract ", "face ", "final face ", "abstract face ", "final abstract face "};
        for (int f = 0; f < 8; f++) {
            boolean one = f == 0 || f == 1 || f == 2 || f == 4;
            if (one) {
                Calls.due(flags[f], Calls.good(1, flags[f] + "class A : Thing|end").x.told(0, 21, 4), f);
            } else {
                refused(4, "^" + flags[f] + "class A : Thing|end");
            }
            if (f < 4 && one) {
                good(flags[f] + "class A : Late|end");
            } else {
                refused(4, "^" + flags[f] + "class A : Late|end");
            }
        }
        refused(4, "^face class A : Fault|end");
        good("face class A : Thing, Fault|end");
        String[] of = {"static ", "final ", "private ", "abstract "};
        for (int f = 0; f < 16; f++) {
            StringBuilder told = new StringBuilder();
            for (int i = 0; i < 4; i++) {
                told.append((f >> i & 1) == 1 ? of[i] : "");
            }
            String line = "method " + told + "f()none";
            if (f <= 8) {
                Calls c = Calls.good(1, "abstract class A : Thing|" + line + (f == 8 ? "" : "|room 0 1|done") + "|end");
                Calls.due(line, c.x.member(0, 21, 0, 0), f);
            } else {
                refused(4, "abstract class A : Thing|^" + line + "|end");
            }
        }
    }

    /** 5: in a face all FLAGS of fields and methods; <make>. */
    private static void rule5() {
        String[] of = {"static ", "final ", "private "};
        for (int f = 0; f < 8; f++) {
            StringBuilder told = new StringBuilder();
            for (int i = 0; i < 3; i++) {
                told.append((f >> i & 1) == 1 ? of[i] : "");
            }
            if ((f & 3) == 3) {
                good("face class A : Thing|field " + told + "x num|end");
            } else {
                refused(5, "face class A : Thing|^field " + told + "x num|end");
            }
            if (f <= 1) {
                good("face class A : Thing|method " + told + "f()none|room 0 1|done|end");
            } else {
                refused(5, "face class A : Thing|^method " + told + "f()none|room 0 1|done|end");
            }
            good(OPEN + "field " + told + "x num|method " + told + "f()none|room 0 1|done|end");
        }
        refused(5, "face class A : Thing|^method <make>()none|room 0 1|done|end");
        refused(5, "face class A : Thing|^method <make>(num)none|room 0 2|done|end");
        good("face class A : Thing|method static <start>()none|room 0 0|done|method abstract m()none|end");
    }

    /** 6: an abstract method in a class that is neither abstract nor a face. */
    private static void rule6() {
        refused(6, OPEN + "^method abstract f()none|end");
        refused(6, "final class A : Thing|^method abstract f()none|end");
        good("abstract class A : Thing|method abstract f()none|end");
        good("face class A : Thing|method abstract f()none|end");
    }

    /** 7: <make> and <start> with all FLAGS, arguments, results. */
    private static void rule7() {
        String[] of = {"static ", "final ", "private "};
        for (int f = 0; f < 8; f++) {
            StringBuilder told = new StringBuilder();
            for (int i = 0; i < 3; i++) {
                told.append((f >> i & 1) == 1 ? of[i] : "");
            }
            String make = OPEN + "@method " + told + "<make>()none|room 0 1|done|end";
            String start = OPEN + "@method " + told + "<start>()none|room 0 1|done|end";
            if (f == 0 || f == 4) {
                good(make.replace("@", ""));
                good(make.replace("@", "").replace("()none|room 0 1", "(num, row)none|room 0 3"));
                refused(7, make.replace("@", "^").replace("none", "num"));
                refused(7, make.replace("@", "^").replace("none", "A"));
            } else {
                refused(7, make.replace("@", "^"));
            }
            if (f == 1) {
                good(start.replace("@", ""));
                refused(7, start.replace("@", "^").replace("()none", "()num"));
                refused(7, start.replace("@", "^").replace("()none", "(num)none"));
            } else {
                refused(7, start.replace("@", "^"));
            }
        }
        refused(7, "abstract class A : Thing|^method abstract <make>()none|end");
        refused(7, "abstract class A : Thing|^method abstract <start>()none|end");
    }

    /** Asked when a method ends: at field, method or end, 9 first, then 10, then 8, before the rules of that line. */
    private static void rule8To10() {
        for (String end : new String[] {"end", "field x num", "method g()none", "end @", "field", "method x @"}) {
            // whether 8 comes before 1 of that line is not told
            if (end.equals("end") || end.endsWith("num") || end.endsWith("none")) {
                refused(8, OPEN + "method static f()none|room 1 1|^" + end + "|end");
                refused(8, OPEN + "method static f()none|room 1 1|a:|b:|  ^" + end + "|end");
            }
            refused(9, OPEN + "method static f()none|room 1 1|done|^jump a|" + end + "|end");
            refused(9, OPEN + "method static f()none|room 1 1|^frame ;|" + end + "|end");
            refused(9, OPEN + "method static f()none|room 1 1|^handler a b a any|a: b:|" + end + "|end");
            refused(10, OPEN + "method static f()none|room 1 1|a: done|b:|^handler a a a any|" + end + "|end");
        }
        // 8: all but an instruction
        refused(8, OPEN + "method static f()none|room 1 1|^end");
        good(OPEN + "method static f()none|room 1 1|nop|end");
        refused(8, OPEN + "method static f()none|room 1 1|nop|method g()none|room 1 1|^end");
        // a label twice: at the second line
        refused(9, body("a: nop|^a: nop"));
        refused(9, body("^a: a: nop"));
        refused(9, body("a:|^a:|nop"));
        refused(9, body("nop|a:|^a:"));
        refused(9, body("a: nop|^a: nop|a: nop"));
        // used and not told: at the line that uses it
        refused(9, body("^jump a"));
        refused(9, body("^pick 0 b, a|b: nop"));
        refused(9, body("^pick 0 a, b|b: nop"));
        refused(9, body("b: nop|^handler a b b any"));
        refused(9, body("b: nop|^handler b a b any"));
        refused(9, body("b: nop|c: nop|^handler b c a any"));
        // it tells the end: but as a handler's second
        refused(9, body("^jump a|a:"));
        refused(9, body("^pick 0 a|a:"));
        refused(9, body("^pick 0 b, a|b: nop|a:"));
        refused(9, body("b: nop|^handler a a b any|a:"));
        refused(9, body("b: nop|^handler b a a any|a:"));
        good(body("b: nop|handler b a b any|a:"));
        good(body("nop|a:"));
        // a frame for the end
        refused(9, body("nop|^frame ;"));
        refused(9, body("nop|^frame ;|a:"));
        // the first such line of the method
        refused(9, body("^jump a|jump b|c: nop|c: nop|frame ;"));
        refused(9, body("c: nop|^c: jump b|jump a|frame ;"));
        refused(9, body("c: nop|^jump a|c: nop|frame ;"));
        refused(9, body("c: nop|^handler c d c any|c: nop|frame ;"));
        // each before another method's lines
        refused(9, OPEN + "method f()none|room 0 1|^jump a|method f()none|@");
        // 10: its first LABEL does not tell an instruction before its second
        refused(10, body("a: nop|b: nop|^handler b a a any"));
        refused(10, body("a: nop|b: nop|^handler a a a any"));
        refused(10, body("a: b: nop|^handler a b a any"));
        good(body("a: nop|b: nop|handler a b b any"));
        refused(10, body("a: nop|b: nop|handler a b b any|^handler b b b any|handler b a a any"));
        refused(10, body("^handler b a a any|a: nop|b: nop"));
        // 9 first, in all lines
        refused(9, body("a: nop|b: nop|handler b a a any|^jump c"));
        refused(9, body("a: nop|b: nop|handler b a a any|^frame ;"));
        refused(9, body("a: nop|b: nop|handler b a a any|^a: nop"));
        // a line that breaks another rule comes before what is asked at the end
        refused(1, body("a: nop|a: nop|jump b|^x"));
        refused(12, body("a: nop|a: nop|jump b|^call A.f(num,num,num,num,num,num,num)none"));
        refused(1, OPEN + "method f()none|room 1 1|jump b^");
        refused(1, OPEN + "method f()none|room 1 1|^");
    }

    /** 11: "of all that are told, however many". */
    private static void rule11() {
        refused(11, "^class A : A|end");
        refused(11, "^class A : Thing, A|end");
        refused(11, "^class A : Thing, B, C, D, A|end");
        refused(11, "^class A : Thing, B, C, D, E, A|end");
        refused(11, "^class A : Thing, B, B|end");
        refused(11, "^class A : Thing, B, C, B|end");
        refused(11, "^class A : Thing, B, C, D, B|end");
        refused(11, "^class A : Thing, B, C, C|end");
        refused(11, "^class A : Thing, B, C, D, E, F, F|end");
        refused(11, "^class A : Thing, B, C, D, E, F, B|end");
        refused(11, "^class A : Thing, Thing|end");
        refused(11, "^class A : B, C, D, B|end");
        refused(11, "^class A : B, C, D, E, F, B|end");
        refused(11, "^face class A : Thing, Thing|end");
        good("class A : Thing, B, C, D, E|end");
        good("face class A : Thing, B, C, D, E|end");
        Calls.good(2, "class A : Thing, B|end|class B : A|end");
    }

    private static String many(int n, String line) {
        StringBuilder s = new StringBuilder();
        for (int i = 0; i < n; i++) {
            s.append(line.replace("%", "" + i)).append('|');
        }
        return s.toString();
    }

    /** 12: the last that there can be, and one more, of each. */
    private static void rule12() {
        Calls.due("faces", Calls.good(1, "class A : Thing, B, C, D, E|end").x.told(0, 21, 1), 4);
        refused(12, "^class A : Thing, B, C, D, E, F|end");
        refused(12, "^class A : Thing, B, C, D, E, F, G|end");
        Calls.due("fields", Calls.good(1, OPEN + many(8, "field x% num") + "end").x.told(0, 21, 2), 8);
        refused(12, OPEN + many(8, "field x% num") + "^field y num|end");
        refused(12, OPEN + many(5, "field x% num") + many(3, "field static y% num") + "^field y num|end");
        Calls.good(2, OPEN + many(8, "field x% num") + "end|class B : A|" + many(8, "field x% num") + "end");
        Calls.due("methods", Calls.good(1, OPEN + many(12, "method f%()none|room 0 1|done") + "end").x.told(0, 21, 3), 12);
        refused(12, OPEN + many(12, "method f%()none|room 0 1|done") + "^method g()none|room 0 1|done|end");
        Calls.good(2, OPEN + many(12, "method f%()none|room 0 1|done") + "end|class B : A|" + many(12, "method f%()none|room 0 1|done") + "end");
        String six = "num, row, A, num, num, num";
        Calls.due("arguments", Calls.good(1, OPEN + "method f(" + six + ")none|room 0 7|done|end").x.member(0, 21, 0, 1), 6);
        refused(12, OPEN + "^method f(" + six + ", num)none|room 0 8|done|end");
        refused(12, OPEN + "^method f(" + six + ", num, num)none|room 0 9|done|end");
        for (String op : new String[] {"call", "special", "static", "facecall"}) {
            good(body(op + " A.f(" + six + ")none"));
            refused(12, body("^" + op + " A.f(" + six + ", num)none"));
            refused(12, body("^" + op + " A.f(" + six + ", num, row, A)none"));
            refused(1, body(op + " A.f(" + six + ", num)none ^x"));
        }
        Calls.due("instructions", Calls.good(1, body(many(80, "a%: nop"))).x.member(0, 21, 0, 4), 80);
        refused(12, body(many(80, "nop") + "^nop"));
        refused(12, body(many(80, "nop") + "a:|^b: nop"));
        refused(1, body(many(80, "nop") + "^x"));
        good(body(many(80, "nop") + "a:"));
        Calls.good(1, OPEN + "method f()none|room 0 1|" + many(80, "nop") + "method g()none|room 0 1|" + many(80, "nop") + "end");
        good(body("a: nop|" + many(8, "handler a b a any") + "b:"));
        refused(12, body("a: nop|" + many(8, "handler a b a any") + "^handler a b a any|b:"));
        Calls.good(1, OPEN + "method f()none|room 0 1|a: nop|" + many(8, "handler a b a any") + "b:|method g()none|room 0 1|a: nop|" + many(8, "handler a b a any") + "b:|end");
        Calls.good(30, many(30, "class A% : Thing|end"));
        refused(12, many(30, "class A% : Thing|end") + "^class B : Thing|end");
        Calls c = new Calls();
        c.x.world(0);
        c.goodIn(0, 29, many(29, "class A% : Thing|end"));
        c.refusedIn(0, 12, "class B : Thing|end|^class C : Thing|end");
        c.goodIn(0, 1, "class C : Thing|end");
        c.refusedIn(0, 12, "^class B : Thing|end");
        Calls.due("thirty", c.x.classes(0), 30);
        Calls.due("the last one's number", c.x.told(0, 50, 3), 0);
        Calls.due("none behind it", c.x.told(0, 51, 3), -1);
        c.x.world(0);
        c.goodIn(1, 1, "class B : Thing|end");
    }

    /** 13: "fewer LOCALS than arguments (and one for itself, if it is not static)". */
    private static void rule13() {
        String[] types = {"", "num", "num,num", "num,num,num", "num,num,num,num", "num,num,num,num,num", "num,num,num,num,num,num"};
        for (int n = 0; n <= 6; n++) {
            good(OPEN + "method f(" + types[n] + ")none|room 0 " + (n + 1) + "|done|end");
            refused(13, OPEN + "method f(" + types[n] + ")none|^room 0 " + n + "|done|end");
            good(OPEN + "method static f(" + types[n] + ")none|room 0 " + n + "|done|end");
            if (n > 0) {
                refused(13, OPEN + "method static f(" + types[n] + ")none|^room 20 " + (n - 1) + "|done|end");
            }
        }
        refused(13, OPEN + "method <make>()none|^room 0 0|done|end");
        good(OPEN + "method <make>()none|room 0 1|done|end");
        refused(1, OPEN + "method f()none|room 0 0 ^x|done|end");
    }

    /** 14: "= with a field that is not static or not num". */
    private static void rule14() {
        good(OPEN + "field static x num = 0|end");
        good(OPEN + "field static final private x num = 0|end");
        refused(14, OPEN + "^field x num = 0|end");
        refused(14, OPEN + "^field final private x num = 0|end");
        refused(14, OPEN + "^field static x row = 0|end");
        refused(14, OPEN + "^field static x A = 0|end");
        refused(14, OPEN + "^field x row = 0|end");
    }

    /** "of one line 1 first, then the least". */
    private static void leastOfOneLine() {
        String five = ", B, C, D, E, F";
        refused(1, "final abstract class Thing : Thing" + five + " ^@|end");
        refused(2, "^final abstract class Thing : Thing, Thing" + five + "|end");
        refused(2, "^class Thing : Q" + five + "|end");
        refused(2, "^class Thing : Q, Q|end");
        refused(4, "^final abstract class A : A" + five + "|end");
        refused(4, "^final abstract class A : Thing" + five + "|end");
        refused(4, "^final abstract class A : A|end");
        refused(11, "^class A : A" + five + "|end");
        String full = many(30, "class A% : Thing|end");
        refused(2, full + "^class A3 : Thing|end");
        refused(4, full + "^face class B : Fault|end");
        refused(11, full + "^class B : B|end");
        refused(1, full + "class B : ^5|end");
        String eight = many(8, "field static final x% num");
        refused(1, OPEN + eight + "field x0 num = 1 ^x|end");
        refused(3, "face class A : Thing|" + eight + "^field x0 num = 1|end");
        refused(5, "face class A : Thing|" + eight + "^field y num = 1|end");
        refused(12, OPEN + eight + "^field y num = 1|end");
        refused(3, OPEN + "field x num|^field x num = 1|end");
        refused(5, "face class A : Thing|^field x num = 1|end");
        String twelve = many(12, "method abstract x%()none");
        String seven = "(num,num,num,num,num,num,num)";
        refused(1, "abstract class A : Thing|" + twelve + "method static abstract x0()none ^x|end");
        refused(3, "abstract class A : Thing|" + twelve + "^method static abstract x0()none|end");
        refused(3, "face class A : Thing|" + twelve + "^method final x0()none|end");
        refused(3, "abstract class A : Thing|method <make>()none|room 0 1|done|^method static <make>()none|end");
        refused(4, "abstract class A : Thing|" + twelve + "^method static abstract y()none|end");
        refused(4, "face class A : Thing|^method final abstract y()none|end");
        refused(4, OPEN + "^method private abstract y()none|end");
        refused(4, OPEN + "^method static abstract <make>()num|end");
        refused(4, OPEN + "^method static abstract y" + seven + "none|end");
        refused(5, "face class A : Thing|" + twelve + "^method final y()none|end");
        refused(5, "face class A : Thing|^method static <make>()num|end");
        refused(5, "face class A : Thing|^method private static <start>()num|end");
        refused(5, "face class A : Thing|^method final y" + seven + "none|end");
        refused(6, OPEN + "^method abstract <make>()num|end");
        refused(6, OPEN + "^method abstract y" + seven + "none|end");
        refused(7, "abstract class A : Thing|" + twelve + "^method static <make>()none|end");
        refused(7, OPEN + "^method static <make>" + seven + "none|end");
        refused(7, OPEN + "^method static <start>" + seven + "none|end");
        refused(12, "abstract class A : Thing|" + twelve + "^method abstract y" + seven + "none|end");
    }

    /** "the text is refused at the first line that breaks one". */
    private static void firstLine() {
        refused(14, OPEN + "^field x num = 1|field x num|@|end");
        refused(13, OPEN + "method f()none|^room 0 0|@|end");
        refused(12, "^class A : Thing, B, C, D, E, F|@|end");
        refused(11, "^class A : A|class A : A|@");
        refused(2, "class A : Thing|end|^class A : A|@");
        refused(8, OPEN + "method f()none|room 0 1|^method g()none|@|end");
        refused(3, OPEN + "method f()none|room 0 1|nop|^method f()none|@|end");
        refused(7, OPEN + "^method <start>()none|@|end");
        refused(1, "class A : Thing|end|^x|class A : Thing|end");
    }

    /** "Then nothing comes of the text." */
    private static void nothingComes() {
        Calls c = Calls.good(1, "class A : Thing|field static x num = 3|method static f()num|room 1 0|sget A.x num|ndone|end");
        String was = c.print(0, 21);
        c.refusedIn(0, 14, "class B : Thing|field static z num = 9|method f()none|room 3 3|a: pick 4 a, a|frame num; row|nop|b:|handler a b a any|end"
            + "|class C : Thing|^field y num = 2|end");
        Calls.due("one class", c.x.classes(0), 1);
        Calls.due("no class 22", c.x.told(0, 22, 0), -1);
        Calls.same("A is as it was", c.print(0, 21), was);
        c.goodIn(0, 2, "class C : B|field static q num = 5|end|class B : Thing|field static r num = 6|method static g()num|room 1 0|num 4|ndone|end");
        Calls.due("their names were free", c.x.told(0, 22, 0), 23);
        Calls.same("A is as it was", c.print(0, 21), was);
        Calls.same("B", c.print(0, 23), "class B: Thing\n field static r num = 6\n method static g() num\n  room 1 0\n  num 4\n  ndone\nend\n");
        c.call(0, 0, "A.f()num");
        c.x.step(0, 100);
        Calls.due("A's x", c.x.run(0, 0, 3), 3);
        c.refusedIn(0, 1, "class D : Thing|end|class E : Thing^");
        c.goodIn(0, 1, "class E : D|end");
        Calls.due("D did not come", c.x.told(0, 24, 0), -2);
        Calls.due("so E does not link", c.x.link(0, 24), 2011);
    }

    /** A text that was refused leaves nothing for the next one. */
    private static void goodBehindRefused() {
        String[] bad = {body("a: nop|a: nop"), body("nop|frame ;"), body("frame ;|@"), body("frame num; row|nop|jump x"), body("a: nop|handler a a a any"), "class A : Thing|", OPEN + "method f()none|room 1 1|a: b: frame_: @", OPEN + "method f(num,num)none",
            OPEN + "field x num|field x num|end", body("pick 1 a, b, c|a: nop"), "class A : A|end", OPEN + "method f()none|room 0 0|nop|end"};
        String good = body("a: nop|jump a|frame ;|b: pick 7 a, b|c: nop|handler a b c any");
        for (String one : bad) {
            Calls c = new Calls();
            c.x.world(0);
            for (int i = 0; i < 2; i++) {
                Calls.due("refused " + one, c.define(0, one.replace('|', '\n')) < -10 ? 1 : 0, 1);
            }
            c.goodIn(0, 1, good);
            Calls.due("what a text has behind " + one, c.x.member(0, 21, 0, 4), 4);
            Calls.same("it is as it was told", c.print(0, 21), "class A: Thing\n method static f() none\n  room 9 9\n  L0: nop\n  jump L0\n  frame;\n  L1: pick 7 L0, L1\n  L2: nop\n  handler L0 L1 L2 any\nend\n");
        }
    }

    /** A NUMBER or a sign is no NAME, whatever it is. */
    private static void numbersAreNoWords() {
        for (int n = 0; n < 128; n++) {
            refused(1, "^" + n + " A : Thing|end");
            refused(1, "class ^" + n + " : Thing|end");
            refused(1, "class A ^" + n + " Thing|end");
            refused(1, "class A : B ^" + n + " C|end");
            refused(1, OPEN + "^" + n + " x num|end");
            refused(1, OPEN + "^" + n);
            refused(1, OPEN + "field x ^" + n + "|end");
            refused(1, OPEN + "field static x num ^" + n + " 1|end");
            refused(1, OPEN + "method f ^" + n + " num)none|end");
            refused(1, OPEN + "method f(num ^" + n + " num)none|end");
            refused(1, OPEN + "method f(num ^" + n + " none|end");
            refused(1, OPEN + "method f()none|^" + n + " 1 1|nop|end");
            refused(1, body("^" + n));
            refused(1, body("^" + n + " ;|nop"));
            refused(1, body("frame num ^" + n + " row;|nop"));
            refused(1, body("frame num ^" + n + "|nop"));
            refused(1, body("call ^" + n + ".f()none"));
            refused(1, body("call A ^" + n + " f()none"));
            refused(1, body("call A.^" + n + "()none"));
            refused(1, body("a: nop|^" + n + " a a a any"));
            refused(1, body("nop|^" + n));
        }
        for (char sign : ":,;().=".toCharArray()) {
            refused(1, "^" + sign + " A : Thing|end");
            refused(1, "class ^" + sign + " : Thing|end");
            refused(1, OPEN + "^" + sign + " x num|end");
            refused(1, OPEN + "field ^" + sign + " num|end");
            if (sign != ':') {
                refused(1, body("num ^" + sign));
                refused(1, body("new ^" + sign));
                refused(1, body("jump ^" + sign));
            }
            refused(1, body("inc 1 ^" + sign));
            refused(1, body("nop|^" + sign));
        }
        // an instruction is one of its 62 words, though many other names are known
        StringBuilder many = new StringBuilder();
        for (int i = 0; i < 60; i++) {
            many.append("name").append(i).append(": ");
        }
        refused(1, body(many + "nop|^name61"));
        refused(1, body(many + "nop|^unknown 1"));
        refused(1, body(many + "^unknown L"));
    }

    /** A NAME of two letters, by its number. */
    private static String two(int n) {
        return "" + (char) ('a' + n / 26) + (char) ('a' + n % 26);
    }

    /** 264 methods of one NAME, each of another type, or of another result, and in each class one of none. */
    private static void typesOfMethods() {
        for (int part = 0; part < 6; part++) {
            boolean results = part > 2;
            Calls c = new Calls();
            c.x.world(0);
            for (int half = 0; half < 2; half++) {
                StringBuilder text = new StringBuilder();
                for (int k = 12 * half; k < 12 * half + 12; k++) {
                    text.append("face class C").append(k).append(":Thing|");
                    for (int m = 0; m < 11; m++) {
                        String one = two(11 * k + m);
                        text.append("method abstract f(").append(results ? "" : one).append(")").append(results ? one : "num").append('|');
                    }
                    text.append("method abstract f()num|end|");
                }
                c.goodIn(0, 12, text.toString());
            }
            // what is told of a third of them
            for (int k = part % 3; k < 24; k += 9) {
                c.x.print(0, 21 + k);
                int at = ("face class C" + k + ": Thing\n").length();
                for (int m = 0; m < 11; m++) {
                    int name = at + (results ? " method abstract f() ".length() : " method abstract f(".length());
                    Calls.due("first letter", c.x.written(name), two(11 * k + m).charAt(0));
                    Calls.due("second letter", c.x.written(name + 1), two(11 * k + m).charAt(1));
                    at += results ? " method abstract f() ab\n".length() : " method abstract f(ab) num\n".length();
                }
                Calls.due("without types", c.x.written(at + " method abstract f(".length()), ')');
            }
        }
    }

    /** Methods of one NAME are others by their types: all rows of up to six of num and row, in as many classes as they need. */
    private static void signsOfMethods() {
        Calls c = new Calls();
        c.x.world(0);
        String[] results = {"none", "num", "row", "A"};
        int made = 0;
        StringBuilder text = new StringBuilder();
        StringBuilder[] due = new StringBuilder[11];
        for (int n = 0; n <= 4; n++) {
            for (int bits = 0; bits < 1 << n; bits++) {
                for (String result : results) {
                    int cls = made / 12;
                    if (made % 12 == 0) {
                        text.append(made == 0 ? "" : "end\n").append("abstract class C").append(cls).append(":P\n");
                        due[cls] = new StringBuilder("abstract class C" + cls + ": P\n");
                    }
                    StringBuilder types = new StringBuilder();
                    for (int i = 0; i < n; i++) {
                        types.append(i == 0 ? "" : ", ").append((bits >> i & 1) == 0 ? "num" : "row");
                    }
                    text.append("method abstract f(").append(types.toString().replace(" ", "")).append(")").append(result).append("\n");
                    due[cls].append(" method abstract f(").append(types).append(") ").append(result).append("\n");
                    made++;
                }
            }
        }
        Calls.due("methods", made, 124);
        Calls.due("classes", c.define(0, text + "end\n"), 11);
        for (int k = 0; k < 11; k++) {
            String told = due[k] + "end\n";
            Calls.due("length of " + k, c.x.print(0, 21 + k), told.length());
            for (int i = k; i < told.length(); i += 37) {
                Calls.due("byte " + i + " of " + k, c.x.written(i), told.charAt(i));
            }
            for (int m = 0; m < (k < 10 ? 12 : 4); m += 5) {
                int n = 12 * k + m;
                int length = n < 4 ? 0 : n < 12 ? 1 : n < 28 ? 2 : n < 60 ? 3 : 4;
                Calls.due("arguments of " + n, c.x.member(0, 21 + k, m, 1), length);
            }
        }
    }

    /** BREAKS 0, 1, 2: rules 4, 5, 6 are not asked, all others are. */
    private static void brokenRules() {
        String[] texts = {"^final abstract class A : Thing|end", "face class A : Thing|^field x num|end", OPEN + "^method abstract f()none|end"};
        String[] others = {"^face class A : Fault|end", "face class A : Thing|^method <make>()none|room 0 1|done|end",
            "final class A : Thing|^method abstract f()none|end"};
        for (int b = 0; b < 8; b++) {
            for (int i = 0; i < 3; i++) {
                for (String told : new String[] {texts[i], others[i]}) {
                    Calls c = new Calls();
                    c.x.world(1 << b);
                    if (b == i) {
                        c.goodIn(0, 1, told.replace("^", ""));
                    } else {
                        c.refusedIn(0, 4 + i, told);
                    }
                }
            }
        }
        Calls c = new Calls();
        c.x.world(255);
        c.refusedIn(0, 1, "class A : ^num|end");
        c.refusedIn(0, 2, "^class Thing : Thing|end");
        c.refusedIn(0, 3, OPEN + "field x num|^field x num|end");
        c.refusedIn(0, 7, OPEN + "^method <start>()none|end");
        c.refusedIn(0, 8, OPEN + "method f()none|room 0 1|^end");
        c.refusedIn(0, 9, body("^jump a"));
        c.refusedIn(0, 10, body("a: nop|b:|^handler a a a any"));
        c.refusedIn(0, 11, "^class A : A|end");
        c.refusedIn(0, 12, "^class A : B, C, D, E, F, G|end");
        c.refusedIn(0, 13, OPEN + "method f()none|^room 0 0|done|end");
        c.refusedIn(0, 14, OPEN + "^field x num = 1|end");
        c.goodIn(0, 1, "final abstract face class A : Fault|field x num|method final static abstract private f()none|method private <make>()none|room 0 1|done|end");
        Calls.due("its flags", c.x.told(0, 21, 4), 7);
        Calls.due("its parent as told", c.x.told(0, 21, 0), 1);
        Calls.due("the method's", c.x.member(0, 21, 0, 0), 15);
    }
}
