/** Promises 1 to 3: the new object, the tape, worlds, define and place with each rule of texts. */
public final class TapeAndWorldsTest {
    public static void main(String[] args) {
        newObject();
        tapeBytes();
        worlds();
        words();
        rules();
        order();
        limits();
        endsOfMethods();
        broken();
        Calls.end();
    }

    private static void newObject() {
        ClassWorks x = new ClassWorks();
        Calls.due("BAD", ClassWorks.BAD, -1);
        Calls.due("NO", ClassWorks.NO, -2);
        Calls.due("FULL", ClassWorks.FULL, -3);
        for (int i = 0; i < 3; i++) {
            Calls.due("no world " + i, x.classes(i), -1);
        }
        Calls.due("trials", x.count(0), 0);
        Calls.due("steps", x.count(1), 60000);
        Calls.due("tape", x.count(2), 0);
        Calls.due("count(3)", x.count(3), -1);
        Calls.due("count(-1)", x.count(-1), -1);
        Calls.due("place", x.place(), -2);
        Calls.due("written", x.written(0), -1);
        Calls.due("kind", x.kind(0, 0), -1);
        Calls.due("reached", x.reached(0), -2);
    }

    private static void tapeBytes() {
        ClassWorks x = new ClassWorks();
        for (int i = 1; i <= 300; i++) {
            Calls.due("feed " + i, x.feed(1, 2, 3, 4, 5), 20 * i);
        }
        Calls.due("feed past 6000", x.feed(1, 2, 3, 4, 5), -3);
        Calls.due("cut -1", x.cut(-1), -1);
        Calls.due("cut 6001", x.cut(6001), -1);
        Calls.due("cut 1", x.cut(1), 5999);
        Calls.due("19 bytes are too few left", x.feed(0, 0, 0, 0, 0), -3);
        Calls.due("cut 0", x.cut(0), 5999);
        Calls.due("cut all", x.cut(5999), 0);
        Calls.due("cut nothing", x.cut(1), -1);
        Calls c = new Calls();
        c.trial("run A.f()num");
        Calls.due("highest byte first", c.x.text(0, 0), 'r');
        Calls.due("then the next", c.x.text(0, 1), 'u');
    }

    private static void worlds() {
        ClassWorks x = new ClassWorks();
        Calls.due("world 256", x.world(256), -1);
        Calls.due("world -1", x.world(-1), -1);
        for (int i = 0; i < 3; i++) {
            Calls.due("world " + i, x.world(255), i);
        }
        Calls.due("a fourth", x.world(0), -3);
        Calls.due("BAD before FULL", x.world(256), -1);
        Calls.due("drop 3", x.drop(3), -1);
        Calls.due("drop -1", x.drop(-1), -1);
        Calls.due("drop 1", x.drop(1), 0);
        Calls.due("drop 1 again", x.drop(1), -1);
        Calls.due("the least free one", x.world(0), 1);
        Calls c = new Calls();
        c.x.world(0);
        Calls.due("two classes", c.define(0, "class A : Thing", "end", "class B : A", "end"), 2);
        Calls.due("classes", c.x.classes(0), 2);
        Calls.due("one more", c.define(0, "class C : Nowhere", "end"), 1);
        Calls.due("classes", c.x.classes(0), 3);
        c.tape("class Q : Thing");
        Calls.due("define in no world", c.x.define(1), -1);
        Calls.due("the tape stays", c.x.count(2), 15);
        c.x.cut(15);
        Calls.due("nothing", c.x.define(0), 0);
        Calls.due("drop tells its classes", c.x.drop(0), 3);
        c.x.world(0);
        Calls.due("a new world is empty", c.x.classes(0), 0);
        Calls.due("so their names are free", c.define(0, "class A : Thing", "end"), 1);
    }

    private static void words() {
        refused(1, "^clas A : Thing|end");
        refused(1, "class ^1A : Thing|end");
        refused(1, "class ^num : Thing|end");
        refused(1, "class ^any : Thing|end");
        refused(1, "class A ^Thing|end");
        refused(1, "class A :^|end");
        refused(1, "class A :  ^|end");
        refused(1, "class A : # none  ^|end");
        refused(1, "class A : Thing|end ^x");
        refused(1, "class A : Thing ^@|end");
        refused(1, "class A : Thing ^- # -|end");
        refused(1, "class A : Thing^");
        refused(1, "class A : Thing|   # no end^");
        refused(1, "class ^Abcdefghijklm : Thing|end");
        good("class Abcdefghijkl : Thing|end");
        good("# a line without words||   |class A:Thing#here|end # there");
        refused(1, "class A : Thing| field x num ^5|end");
        good("class A : Thing| field static x num = -2147483648|end");
        good("class A : Thing| field static x num = 0000000007|end");
        refused(1, "class A : Thing| field static x num = ^2147483648|end");
        refused(1, "class A : Thing| field static x num = ^00000000007|end");
        refused(1, "class A : Thing| field static x num = ^-|end");
        refused(1, "class A : Thing| field static^");
        refused(1, "class A : Thing| field final num^|end");
        good("class A : Thing| field static static num| field num num| field end row| field abstract A|end");
        refused(1, "final ^final class A : Thing|end");
        good("final class final : Thing|end");
        refused(1, "^field x num");
        refused(1, "class A : Thing|^class B : Thing|end");
        refused(1, "^\tclass A : Thing|end");
        refused(1, "^\u0080|class A : Thing|end");
        refused(1, "class A : Thing|method ^<maker>()none|end");
        refused(1, "class A : Thing|field ^<make> num|end");
        refused(1, "class A : Thing|method f(num ^num)none|end");
        refused(1, "class A : Thing|method f(num,^)none|end");
        refused(1, "class A : Thing|method f()^null|end");
    }

    private static void rules() {
        refused(2, "^class Fault : Thing|end");
        refused(2, "class A : Thing|end|^class A : Thing|end");
        refused(3, "class A : Thing|field x num|^field x row|end");
        refused(3, body("num 1|ndone|^method f()none|room 0 0|done"));
        good(body("done|method f()num|room 1 1|num 1|ndone"));
        refused(4, "^final abstract class A : Thing|end");
        refused(4, "^face class A : Fault|end");
        refused(4, "^abstract face class A : Thing|end");
        refused(4, "^final face class A : Thing|end");
        refused(4, "abstract class A : Thing|^method static abstract f()num|end");
        refused(4, "abstract class A : Thing|^method final abstract f()num|end");
        refused(4, "abstract class A : Thing|^method private abstract f()num|end");
        refused(5, "face class A : Thing|^field static x num|end");
        refused(5, "face class A : Thing|^field final x num|end");
        refused(5, "face class A : Thing|^method <make>()none|end");
        refused(5, "face class A : Thing|^method final f()none|end");
        refused(5, "face class A : Thing|^method private f()none|end");
        good("face class A : Thing|field final static x num = 4|end");
        refused(6, "class A : Thing|^method abstract f()num|end");
        refused(7, "class A : Thing|^method <make>()num|end");
        refused(7, "class A : Thing|^method static <make>()none|end");
        refused(7, "class A : Thing|^method final <make>()none|end");
        refused(7, "class A : Thing|^method <start>()none|end");
        refused(7, "class A : Thing|^method static <start>(num)none|end");
        refused(7, "class A : Thing|^method static <start>()num|end");
        refused(7, "class A : Thing|^method private static <start>()none|end");
        refused(8, "class A : Thing|method static f()none|room 0 0||^end");
        refused(11, "^class A : A|end");
        refused(11, "^class A : B, A|end");
        refused(11, "^class A : B, C, C|end");
        refused(11, "^class A : B, B|end");
        refused(11, "^class A : B, C, D, E, F, G, G|end");
        refused(13, "class A : Thing|method f(num)none|^room 0 1|done|end");
        good("class A : Thing|method static f(num)none|room 0 1|done|end");
        refused(14, "class A : Thing|^field x num = 1|end");
        refused(14, "class A : Thing|^field static x row = 1|end");
        refused(1, "class A : Thing|method f()^|end");
        refused(1, "class A : Thing|method f()none|^nop|end");
        refused(1, "class A : Thing|method f()none|^end");
        refused(1, "class A : Thing|method f()none|room 1 ^21|end");
        refused(1, "class A : Thing|method f()none|room ^-1 1|end");
        refused(1, "abstract class A : Thing|method abstract f()none|^room 1 1|end");
    }

    /** Of one line 1 first, then the least; else the first line. */
    private static void order() {
        refused(1, "face class Thing : Fault, B, B^@|end");
        refused(2, "^face class Thing : Fault, B, B|end");
        refused(3, "class A : Thing|field x num|^field x num = 1|end");
        refused(4, "^face class A : A|end");
        refused(4, "abstract class A : Thing|^method static abstract <make>()num|end");
        refused(11, "^class A : B, C, D, E, F, G, C|end");
        refused(3, "class A : Thing|field x num|^field x num = 1|@|end");
    }

    private static void limits() {
        good("class A : B, C, D, E, F|end");
        refused(12, "^class A : B, C, D, E, F, G|end");
        StringBuilder fields = new StringBuilder("class A : Thing|");
        StringBuilder methods = new StringBuilder("abstract class A : Thing|");
        StringBuilder handlers = new StringBuilder("a: nop|b: done|");
        for (int i = 0; i < 8; i++) {
            fields.append("field x").append(i).append(" num|");
            handlers.append("handler a b b any|");
        }
        for (int i = 0; i < 12; i++) {
            methods.append("method abstract m").append(i).append("()num|");
        }
        good(fields + "end");
        refused(12, fields + "^field x8 num|end");
        good(methods + "end");
        refused(12, methods + "^method abstract m()num|end");
        good("abstract class A : Thing|method abstract m(num,num,num,num,num,A)num|end");
        refused(12, "abstract class A : Thing|^method abstract m(num,num,num,num,num,A,row)num|end");
        refused(1, "abstract class A : Thing|method abstract m(num,num,num,num,num,A,row)num^@|end");
        refused(12, body("^static A.f(num,num,num,num,num,num,num)none"));
        good(body("static A.f(num,num,num,num,num,num)none"));
        String most = "nop|".repeat(79) + "done|";
        good(body(most + "L:"));
        refused(12, body(most + "^L: done"));
        good(body(handlers.toString()));
        refused(12, body(handlers + "^handler a b b any"));
        Calls c = new Calls();
        c.x.world(0);
        StringBuilder many = new StringBuilder();
        for (int i = 0; i < 30; i++) {
            many.append("class A").append(i).append(":Thing\nend\n");
        }
        Calls.due("thirty", c.define(0, many.toString()), 30);
        Calls.due("31st", c.define(0, "class B : Thing", "end"), -22);
        Calls.due("31st, but a known name", c.define(0, "class A0 : Thing", "end"), -12);
    }

    private static void endsOfMethods() {
        refused(9, body("L: nop|^L: done"));
        refused(9, body("^L: L: done"));
        refused(9, body("^jump L|M: done"));
        refused(9, body("done|^jump L|jump M|L:"));
        refused(9, body("done|^frame ;"));
        refused(1, body("done|frame ;|^frame ;|done"));
        refused(1, body("frame ;|L:|^frame ;|done"));
        good(body("L: nop|done|handler L M L any|M:"));
        refused(9, body("done|^handler M L N any|L:|M:|N:"));
        refused(9, body("L: done|^handler L M M any|M:"));
        refused(10, body("L: nop|M: done|^handler M L L any|handler L L L any"));
        refused(10, body("L: nop|M: done|handler L M L any|^handler L L L any"));
        refused(9, body("L: nop|M: done|handler L L L any|^jump Q"));
        refused(9, body("jump M|M: done|^M: L: nop|jump L|frame ;"));
        refused(8, "class A : Thing|method static f()none|room 9 9|^field x num|end");
        refused(9, "class A : Thing|method static f()none|room 9 9|^handler a a a any|end @");
        refused(1, "class A : Thing|method static f()none|room 9 9|jump L|^@|end");
        refused(1, "class A : Thing|method static f()none|room 9 9|jump L^");
        good(body("end: field: nop|method: jump end|frame: handler: nop|num: done|handler end frame num any"));
        refused(1, body("L: ^frame ;|done"));
        refused(1, body("L: ^end|done"));
        refused(1, body("nload ^20|done"));
        refused(1, body("nload ^-1|done"));
        refused(1, body("inc 1^|done"));
        refused(1, body("pick 1 L,^|done"));
        refused(1, body("call A.^<start>()none"));
        refused(1, body("frame ^any;|done"));
        refused(1, body("frame ^none;|done"));
        refused(1, body("frame num^|done"));
        refused(1, body("handler a b c ^none|done"));
        refused(1, body("handler a b^|done"));
    }

    /** Rules 4, 5 and 6 can be broken. */
    private static void broken() {
        Calls c = new Calls();
        c.x.world(1);
        Calls.due("4 is not asked", c.define(0, "final abstract face class A : Fault", "end"), 1);
        Calls.due("5 is", c.define(0, "face class B : Fault", "field x num", "end"), -15);
        c.x.world(6);
        Calls.due("5 and 6 are not asked", c.define(1, "face class B : Thing", "field x num", "end",
            "class C : Thing", "method abstract f()none", "end"), 2);
        Calls.due("4 is", c.define(1, "face class D : Fault", "end"), -14);
    }

    /** Lines with | between; where ^ stands is the place. */
    private static void refused(int rule, String told) {
        Calls c = new Calls();
        c.x.world(0);
        String text = told.replace('|', '\n').replace("^", "");
        Calls.due(told, c.define(0, text), -10 - rule);
        Calls.due("place of " + told, c.x.place(), told.indexOf('^'));
        Calls.due("nothing came of " + told, c.x.classes(0), 0);
        Calls.due("the tape is empty", c.x.count(2), 0);
    }

    private static void good(String told) {
        Calls c = new Calls();
        c.x.world(0);
        Calls.due(told, c.define(0, told.replace('|', '\n')), 1);
        Calls.due("place of " + told, c.x.place(), -2);
    }

    /** A class with a static method of these lines. */
    private static String body(String lines) {
        return "class A : Thing|method static f()none|room 9 9|" + lines + "|end";
    }
}
