import java.util.ArrayList;
import java.util.List;

/** Section 4 and what 10 takes of it: each operation's wants by each KIND, each rule's edges, frames, handlers, what FITS. */
public final class CheckBoundsTest {
    // G and H are not there, S is below G, U below S; X is the class of the methods.
    private static final String LIB = "face class I : Thing|end|class P : Thing, I|end|class Q : P|end|class S : G|end|class U : S|end|face class J : Thing, I|end|";
    private static final String[] VALUES = {"num", "row", "null", "NEW", "unmade", "Thing", "I", "P", "Q", "G", "H", "S", "U", "J", "X"};
    private static final int X_NUMBER = 27;
    private static final int BROKEN_NEXT = 33;

    public static void main(String[] args) {
        wantsOfOperations();
        referencesWanted();
        twoWrongOnes();
        whatComes();
        tooFewOnTheStack();
        tooManyOnTheStack();
        locals();
        kindsOfLocals();
        orderOfRules();
        endsOfMethods();
        behindJumps();
        labels();
        results();
        unmadeAtDone();
        specials();
        framesWrong();
        fits();
        framesFit();
        spans();
        handlersAsk();
        handlersBehindActs();
        inferredHandlers();
        inferredAgain();
        inferredWays();
        inferredRounds();
        Calls.end();
    }

    /** The class X below Q, with these members. */
    private static Calls world(String members) {
        String told = LIB + "class X : Q, I, J|" + members + "|end";
        return Calls.good(7, told);
    }

    private static void checked(int due, String sign, String room, String lines) {
        Calls c = world("method " + sign + "|room " + room + "|" + lines);
        Calls.due(sign + " " + room + " " + lines, c.x.kinds(0, X_NUMBER, 0, false), due);
    }

    private static void inferred(int due, String sign, String room, String lines) {
        Calls c = world("method " + sign + "|room " + room + "|" + lines);
        Calls.due("inferred " + sign + " " + room + " " + lines, c.x.kinds(0, X_NUMBER, 0, true), due);
    }

    private static void both(int due, String sign, String room, String lines) {
        checked(due, sign, room, lines);
        inferred(due, sign, room, lines);
    }

    /** What brings a value of this KIND on the stack. */
    private static String brings(String kind) {
        switch (kind) {
            case "num":
                return "num 1";
            case "null":
                return "null";
            case "NEW":
                return "new P";
            case "unmade":
                return "rload 0";
            default:
                return "sget X.f " + kind;
        }
    }

    private static boolean isClass(String kind) {
        return kind.length() == 1 || kind.endsWith("Fault") || kind.equals("Thing");
    }

    private static boolean isFace(String kind) {
        return kind.equals("I") || kind.equals("J");
    }

    private static boolean isThere(String kind) {
        return !kind.equals("G") && !kind.equals("H");
    }

    private static String parent(String kind) {
        switch (kind) {
            case "X":
                return "Q";
            case "Q":
                return "P";
            case "U":
                return "S";
            case "S":
                return "G";
            case "NullFault":
                return "Fault";
            default:
                return "Thing";
        }
    }

    /** KINDS FIT, of two classes: 0, 43, or the rule that is broken when they do not. */
    private static int classFits(String a, String b, int none) {
        if (a.equals(b) || b.equals("Thing")) {
            return 0;
        }
        if (!isThere(b)) {
            return 43;
        }
        if (isFace(b)) {
            return 0;
        }
        String up = a;
        while (!up.equals("Thing") && !up.equals(b)) {
            if (!isThere(up)) {
                return 43;
            }
            up = parent(up);
        }
        return up.equals(b) ? 0 : none;
    }

    /** What a value breaks where this is wanted: a KIND, REF, any or stored. */
    private static int breaks(String value, String want) {
        boolean raw = value.equals("NEW") || value.equals("unmade");
        if (want.equals("any") || want.equals("stored") && !value.equals("num")) {
            return 0;
        }
        if (want.equals("num") || value.equals("num")) {
            return value.equals(want) ? 0 : 32;
        }
        if (raw) {
            return 39;
        }
        if (want.equals("REF") || value.equals("null") || value.equals(want) || value.equals("row") && want.equals("Thing")) {
            return 0;
        }
        return isClass(value) && isClass(want) ? classFits(value, want, 32) : 32;
    }

    private static String goodFor(String want) {
        return want.equals("any") || want.equals("stored") || want.equals("REF") ? "row" : want;
    }

    // An operation, and what it wants of the stack, the uppermost first.
    private static final String[] WANTS = {"nstore 7:num", "rstore 7:stored", "add:num,num", "sub:num,num", "mul:num,num", "div:num,num", "rem:num,num", "neg:num", "and:num,num",
        "or:num,num", "xor:num,num", "shl:num,num", "shr:num,num", "pop:any", "dup:any", "dupx:any,any", "swap:any,any", "if0 L:num", "ifn0 L:num", "ifl L:num", "ifge L:num",
        "ifg L:num", "ifle L:num", "eq L:num,num", "ne L:num,num", "lt L:num,num", "ge L:num,num", "gt L:num,num", "le L:num,num", "isnull L:REF", "notnull L:REF",
        "same L:REF,REF", "other L:REF,REF", "newrow:num", "get:num,row", "put:num,num,row", "size:row", "fget P.x num:P", "fget I.x num:I", "fget Thing.x row:Thing",
        "fget G.x P:G", "fget S.x S:S", "fput P.x num:num,P", "fput Q.x P:P,Q", "fput P.x row:row,P", "fput G.x I:I,G", "fput J.x Thing:Thing,J", "sput P.x num:num",
        "sput P.x row:row", "sput G.x P:P", "sput G.x G:G", "sput G.x I:I", "call P.m()none:P", "call Q.m(num,row)none:row,num,Q", "call G.m(P)P:P,G", "facecall I.m(Thing,I)num:I,Thing,I",
        "facecall P.m(num)none:num,P", "static P.m(num,row,P,I,G,Thing)none:Thing,G,I,P,row,num", "static P.m(S)row:S", "static G.m()none:", "special X.m(P)none:P,X", "special Q.m()num:X",
        "special I.m()num:X", "cast G:REF", "is G:REF", "cast P:REF", "is P:REF", "enter:REF", "leave:REF"};

    /** Each operation with each KIND at each place that it wants: 32, 43 or 39, else it goes on. */
    private static void wantsOfOperations() {
        for (String row : WANTS) {
            String op = row.substring(0, row.indexOf(':'));
            String told = row.substring(row.indexOf(':') + 1);
            String[] wants = told.isEmpty() ? new String[0] : told.split(",");
            for (int place = 0; place < wants.length; place++) {
                for (String value : VALUES) {
                    List<String> values = new ArrayList<>();
                    for (int k = wants.length - 1; k >= 0; k--) {
                        values.add(k == place ? value : goodFor(wants[k]));
                    }
                    asks(op, values, breaks(value, wants[place]));
                }
            }
        }
        for (String value : VALUES) {
            List<String> one = List.of(value);
            last("throw", "none", one, throwBreaks(value));
            last("ndone", "num", one, breaks(value, "num"));
            last("rdone", "row", one, breaks(value, "row"));
            last("rdone", "P", one, breaks(value, "P"));
            last("rdone", "G", one, breaks(value, "G"));
            last("rdone", "I", one, breaks(value, "I"));
            last("rdone", "Thing", one, breaks(value, "Thing"));
            last("pick 0 L", "none", one, breaks(value, "num"));
        }
        last("throw", "none", List.of("Fault"), 0);
        last("throw", "none", List.of("NullFault"), 0);
    }

    private static int throwBreaks(String value) {
        return breaks(value, "Fault");
    }

    /** The values come on the stack, then the operation: the rule that it breaks, or the next instruction breaks 33. */
    private static void asks(String op, List<String> values, int rule) {
        boolean make = values.contains("unmade");
        String sign = make ? "<make>()none" : "static f()none";
        StringBuilder lines = new StringBuilder();
        for (String value : values) {
            lines.append(brings(value)).append('|');
        }
        int at = values.size();
        lines.append(op).append("|nload 19|frame ;|L: jump L");
        boolean itself = make && op.startsWith("special");
        int due = rule == 0 ? 1000 * BROKEN_NEXT + at + 1 : 1000 * rule + at;
        if (!itself) {
            both(due, sign, "12 19", lines.toString());
        }
    }

    /** An operation behind which nothing goes on. */
    private static void last(String op, String result, List<String> values, int rule) {
        boolean make = values.contains("unmade");
        if (make && !result.equals("none")) {
            return;
        }
        String sign = make ? "<make>()none" : "static f()" + result;
        StringBuilder lines = new StringBuilder(make ? "frame unmade;|L: nop|" : "frame ;|L: nop|");
        for (String value : values) {
            lines.append(brings(value)).append('|');
        }
        both(rule == 0 ? 0 : 1000 * rule + values.size() + 1, sign, "9 9", lines + op);
    }

    /** REF is any class, row or null, whatever the method's result is. */
    private static void referencesWanted() {
        String[] ops = {"isnull L", "notnull L", "same L", "other L", "cast G", "is G", "enter", "leave"};
        for (String result : new String[] {"none", "num", "row", "P", "G", "Thing"}) {
            for (String op : ops) {
                boolean two = op.equals("same L") || op.equals("other L");
                for (String value : new String[] {"row", "null", "P", "H", "I", "Thing"}) {
                    int at = two ? 2 : 1;
                    String values = (two ? brings("row") + "|" : "") + brings(value);
                    both(33001 + at, "static f()" + result, "9 9", values + "|" + op + "|nload 19|frame ;|L: jump L");
                    if (two) {
                        both(33001 + at, "static f()" + result, "9 9", brings(value) + "|" + brings("row") + "|" + op + "|nload 19|frame ;|L: jump L");
                    }
                }
            }
        }
    }

    /** "one of these (the uppermost first)"; 39 when no one breaks 32. */
    private static void twoWrongOnes() {
        both(43002, "static f()none", "9 9", "num 1|sget X.f G|fput P.x Q|done");
        both(32002, "static f()none", "9 9", "sget X.f G|num 1|fput P.x Q|done");
        both(32002, "static f()none", "9 9", "num 1|new P|fput P.x Q|done");
        both(43002, "static f()none", "9 9", "sget X.f G|new P|fput P.x Q|done");
        both(39002, "static f()none", "9 9", "sget X.f P|new P|fput P.x Q|done");
        both(39002, "static f()none", "9 9", "new P|sget X.f Q|fput P.x Q|done");
        both(39002, "static f()none", "9 9", "new P|new Q|same L|L: done");
        both(32003, "static f()none", "9 9", "num 1|num 1|sget X.f G|put|done");
        both(32003, "static f()none", "9 9", "sget X.f G|null|num 1|put|done");
        both(43003, "static f()none", "9 9", "sget X.f G|num 1|sget X.f H|call P.m(num,Q)none|done");
        both(32003, "static f()none", "9 9", "sget X.f G|null|sget X.f Q|call P.m(num,Q)none|done");
        both(43003, "static f()none", "9 9", "sget X.f G|num 1|sget X.f Q|call P.m(num,Q)none|done");
    }

    private static void comes(String due, String lines) {
        Calls c = world("method static f(num)none|room 9 9|" + lines + "|nload 10");
        int at = lines.length() - lines.replace("|", "").length() + 1;
        Calls.due(lines, c.x.kinds(0, X_NUMBER, 0, false), 33000 + at);
        StringBuilder s = new StringBuilder();
        int depth = c.x.kind(at, -1);
        for (int k = 0; k < depth; k++) {
            s.append(k == 0 ? "" : " ").append(c.x.kind(at, 20 + k));
        }
        Calls.same(lines, s + "\n", due + "\n");
    }

    /** What stands on the stack behind an act, the lowest first. */
    private static void whatComes() {
        comes("0", "num 3");
        comes("2", "null");
        comes("0", "nload 0");
        comes("1", "sget X.f row|rstore 1|rload 1");
        comes("2", "null|rstore 1|rload 1");
        comes("5", "new P|rstore 1|rload 1");
        comes("122", "sget X.f P|rstore 1|rload 1");
        comes("", "num 1|nstore 1");
        comes("", "null|rstore 1");
        comes("", "inc 0 1");
        for (String op : new String[] {"add", "sub", "mul", "div", "rem", "and", "or", "xor", "shl", "shr"}) {
            comes("2 0", "null|num 1|num 2|" + op);
        }
        comes("2 0", "null|num 1|neg");
        comes("2", "null|num 1|pop");
        comes("2 0 0", "null|num 1|dup");
        comes("5 5", "new P|dup");
        comes("1 0 2 0", "sget X.f row|null|num 1|dupx");
        comes("1 0 2", "sget X.f row|null|num 1|swap");
        comes("2 5", "new P|null|swap");
        comes("5", "new P");
        comes("2 1", "null|num 1|newrow");
        comes("2 0", "null|null|num 1|get");
        comes("2", "null|null|num 1|num 2|put");
        comes("2 0", "null|null|size");
        comes("2 0", "null|null|fget P.x num");
        comes("2 1", "null|null|fget P.x row");
        comes("2 123", "null|null|fget P.x Q");
        comes("2 99", "null|null|fget P.x H");
        comes("2", "null|null|null|fput P.x Q");
        comes("2 0", "null|sget P.x num");
        comes("2 100", "null|sget P.x Thing");
        comes("2", "null|null|sput P.x Thing");
        comes("2", "null|null|num 1|null|call P.m(num,row)none");
        comes("2 0", "null|null|num 1|null|call P.m(num,row)num");
        comes("2 1", "null|null|facecall I.m()row");
        comes("2 121", "null|null|special X.m()I");
        comes("2", "null|num 1|static P.m(num)none");
        comes("2 99", "null|num 1|static P.m(num)G");
        comes("2 122", "null|null|cast P");
        comes("2 99", "null|null|cast G");
        comes("2 0", "null|null|is G");
        comes("2", "null|null|enter");
        comes("2", "null|null|leave");
        comes("2", "null|new P|special P.<make>()none");
        comes("122 122", "new P|dup|dup|special P.<make>()none");
    }

    /** 31: one fewer than an operation wants. */
    private static void tooFewOnTheStack() {
        for (String row : WANTS) {
            String op = row.substring(0, row.indexOf(':'));
            String told = row.substring(row.indexOf(':') + 1);
            String[] wants = told.isEmpty() ? new String[0] : told.split(",");
            StringBuilder lines = new StringBuilder();
            for (int k = wants.length - 1; k > 0; k--) {
                lines.append(brings(goodFor(wants[k]))).append('|');
            }
            if (wants.length > 0) {
                both(31000 + wants.length - 1, "static f()none", "9 19", lines + op + "|frame ;|L: jump L");
            }
        }
        both(31000, "static f()none", "9 9", "throw");
        both(31000, "static f()num", "9 9", "ndone");
        both(31000, "static f()row", "9 9", "rdone");
        both(31000, "static f()none", "9 9", "frame ;|L: pick 0 L");
        both(31000, "static f()none", "9 9", "special P.<make>()none|done");
        both(31001, "static f()none", "9 9", "num 1|special P.<make>(num)none|done");
    }

    /** 30: STACK is what is needed, or one fewer. */
    private static void tooManyOnTheStack() {
        String[] more = {"num 1", "null", "nload 0", "rload 1", "new P", "sget P.x num", "static P.m()num", "dup", "dupx"};
        for (String op : more) {
            both(0, "static f(num,row)none", "4 9", "num 1|num 2|num 3|" + op + "|done");
            both(30003, "static f(num,row)none", "3 9", "num 1|num 2|num 3|" + op + "|done");
        }
        String[] same = {"neg", "num 1|pop", "swap", "is P", "newrow", "fget P.x num", "special X.m()num", "size", "static P.m()none", "cast P", "inc 0 1", "nop"};
        for (String op : same) {
            String value = op.equals("neg") || op.equals("newrow") ? "num 1" : op.equals("swap") ? "null" : "null";
            boolean fits = !op.equals("num 1|pop");
            both(fits ? 0 : 30002, "static f(num)none", "2 9", "num 1|" + value + "|" + op + "|done");
        }
        both(30000, "static f()none", "0 0", "num 1|done");
        both(0, "static f()none", "0 0", "done");
        both(0, "static f()none", "20 0", "num 1|".repeat(20) + "done");
        both(30020, "static f()none", "20 0", "num 1|".repeat(21) + "done");
    }

    /** 33: the last local that is there, and the first that is not. */
    private static void locals() {
        for (int n = 1; n <= 20; n++) {
            String at = " " + (n - 1);
            String over = " " + n;
            both(0, "static f()none", "2 " + n, "num 1|nstore" + at + "|nload" + at + "|pop|inc" + at + " 5|null|rstore" + at + "|rload" + at + "|done");
            if (n < 20) {
                both(33000, "static f()none", "2 " + n, "nload" + over + "|done");
                both(33000, "static f()none", "2 " + n, "rload" + over + "|done");
                both(33001, "static f()none", "2 " + n, "num 1|nstore" + over + "|done");
                both(33001, "static f()none", "2 " + n, "null|rstore" + over + "|done");
                both(33000, "static f()none", "2 " + n, "inc" + over + " 1|done");
            }
        }
        both(33000, "static f()none", "2 0", "nload 0|done");
    }

    /** 34: nload and inc want num, rload what is no num and not unset. */
    private static void kindsOfLocals() {
        for (String value : VALUES) {
            boolean make = value.equals("unmade");
            boolean num = value.equals("num");
            String sign = make ? "<make>()none" : "static f()none";
            String store = brings(value) + "|" + (num ? "nstore" : "rstore") + " 1|";
            both(num ? 33003 : 34002, sign, "9 3", store + "nload 1|nload 9");
            both(num ? 33003 : 34002, sign, "9 3", store + "inc 1 1|nload 9");
            both(num ? 34002 : 33003, sign, "9 3", store + "rload 1|nload 9");
        }
        both(34000, "static f()none", "9 3", "nload 1|done");
        both(34000, "static f()none", "9 3", "rload 1|done");
        both(34000, "static f()none", "9 3", "inc 1 1|done");
        both(34000, "static f(num)none", "9 3", "nload 1|done");
        both(33001, "static f(num)none", "9 3", "nload 0|nload 9");
        both(33001, "f(num)none", "9 3", "nload 1|nload 9");
        both(34000, "f(num)none", "9 3", "nload 0|done");
        both(33001, "f(num)none", "9 3", "rload 0|nload 9");
        both(33001, "f(row,P,num)none", "9 4", "nload 3|nload 9");
    }

    /** Of one instruction: 33, 31, 32, 34, 39, its own, 30, 36 and 37, 35. */
    private static void orderOfRules() {
        both(33000, "static f()none", "9 1", "nstore 3|done");
        both(33001, "static f()none", "9 1", "null|nstore 3|done");
        both(31000, "static f()none", "9 1", "add|done");
        both(31001, "static f()none", "9 1", "null|add|done");
        both(34000, "static f()none", "0 1", "nload 0|done");
        both(34000, "static f()none", "0 1", "rload 0|done");
        both(39001, "<make>()none", "1 1", "rload 0|fget P.x num");
        both(31000, "static f()none", "1 1", "call P.<make>()none");
        both(32001, "static f()none", "1 1", "num 1|call P.<make>()none");
        both(39001, "static f()none", "1 1", "new P|call P.<make>()none");
        both(42001, "static f()none", "1 1", "null|call P.<make>()num");
        both(42001, "static f()none", "1 1", "null|facecall P.<make>()none");
        both(42000, "static f()none", "0 1", "static P.<make>()num");
        both(30000, "static f()none", "0 1", "static P.m()num");
        both(32000 + 1, "static f()num", "1 1", "null|ndone");
        both(41001, "static f()none", "1 1", "num 1|ndone");
        checked(30000, "static f()none", "0 1", "num 1");
        checked(36001, "static f()none", "1 1", "num 1|if0 L|L: done");
        checked(36002, "static f()none", "1 1", "L: nop|num 1|if0 L");
        checked(37003, "static f()none", "1 1", "null|frame ;null|L: pop|num 1|if0 L");
        checked(35001, "static f()none", "1 1", "num 1|pop");
    }

    /** 35: the last instruction goes on behind itself, at it. */
    private static void endsOfMethods() {
        for (String op : new String[] {"nop", "num 1", "new P", "sget P.x num", "static P.m()none"}) {
            both(35000, "static f()none", "1 0", op);
        }
        both(35001, "static f()none", "1 1", "null|rstore 0");
        for (String op : new String[] {"if0", "ifn0", "ifl", "ifge", "ifg", "ifle"}) {
            both(35001, "static f()none", "1 1", "frame ;|L: num 1|" + op + " L");
        }
        both(0, "static f()none", "1 1", "frame ;|L: jump L");
        both(0, "static f()none", "1 1", "frame ;|L: num 1|pick 0 L");
        both(0, "static f()none", "1 1", "null|throw");
        both(0, "static f()none", "1 1", "done");
        both(0, "static f()num", "1 1", "num 1|ndone");
        both(0, "static f()row", "1 1", "null|rdone");
    }

    /** Behind jump, pick, throw, done, ndone, rdone nothing is known; behind all others it is. */
    private static void behindJumps() {
        checked(36001, "static f()none", "1 1", "done|done");
        checked(36002, "static f()none", "1 1", "null|throw|done");
        checked(36002, "static f()num", "1 1", "num 1|ndone|num 1|ndone");
        checked(36002, "static f()row", "1 1", "null|rdone|null|rdone");
        checked(36001, "static f()none", "1 1", "frame ;|L: jump L|done");
        checked(36002, "static f()none", "1 1", "frame ;|L: num 1|pick 0 L|done");
        checked(0, "static f()none", "1 1", "done|frame ;|done");
        checked(0, "static f(num)none", "1 1", "null|throw|frame num;|nload 0|pop|done");
        checked(34002, "static f(num)none", "1 1", "null|throw|frame ;|nload 0|done");
        inferred(0, "static f()none", "1 1", "done|pop");
        for (String op : new String[] {"nop", "inc 0 1", "static P.m()none", "num 1|if0 L", "null|enter"}) {
            checked(33000 + (op.indexOf('|') < 0 ? 1 : 2), "static f(num)none", "1 1", op + "|nload 9|frame ;|L: done");
        }
    }

    /** 36, 37 where it may go, in the order of its LABELS, pick's first one at last; with frames aside first. */
    private static void labels() {
        String ends = "|frame num;|A: done|frame row;|B: done|C: done|frame ;|D: done|frame unset, unset;|E: done";
        checked(0, "static f(num)none", "1 1", "nload 0|pick 0 A, D|frame num;|A: done|frame ;|D: done");
        checked(37001, "static f(num)none", "1 1", "nload 0|pick 0 A, B" + ends);
        checked(36001, "static f(num)none", "1 1", "nload 0|pick 0 A, C, B" + ends);
        checked(37001, "static f(num)none", "1 1", "nload 0|pick 0 A, B, C" + ends);
        checked(37001, "static f(num)none", "1 1", "nload 0|pick 0 C, B" + ends);
        checked(36001, "static f(num)none", "1 1", "nload 0|pick 0 B, C" + ends);
        checked(38001, "static f(num)none", "1 1", "nload 0|pick 0 C, E" + ends);
        checked(36001, "static f(num)none", "1 1", "nload 0|pick 0 C, D, A" + ends);
        checked(37001, "static f(num)none", "1 1", "nload 0|pick 0 B" + ends);
        checked(37001, "static f(num)none", "1 1", "nload 0|pick 0 B, D, D, D" + ends);
        checked(36000, "static f(num)none", "1 1", "jump C" + ends);
        checked(37000, "static f(num)none", "1 1", "jump B" + ends);
        checked(38000, "static f(num)none", "1 1", "jump E" + ends);
        for (String op : new String[] {"if0", "ifn0", "ifl", "ifge", "ifg", "ifle"}) {
            checked(36001, "static f(num)none", "1 1", "nload 0|" + op + " C" + ends);
            checked(37001, "static f(num)none", "1 1", "nload 0|" + op + " B" + ends);
        }
        for (String op : new String[] {"eq", "ne", "lt", "ge", "gt", "le"}) {
            checked(36002, "static f(num)none", "2 1", "nload 0|nload 0|" + op + " C" + ends);
        }
        checked(36001, "static f(num)none", "1 1", "null|isnull C" + ends);
        checked(36001, "static f(num)none", "1 1", "null|notnull C" + ends);
        checked(36002, "static f(num)none", "2 1", "null|null|same C" + ends);
        checked(36002, "static f(num)none", "2 1", "null|null|other C" + ends);
        // frames aside: the first label's way comes before the second's
        Calls c = world("method static f(num)none|room 2 1|nload 0|if0 A|nload 0|pick 0 A, B|B: done|A: done");
        Calls.due("a number on the stack more", c.x.kinds(0, X_NUMBER, 0, true), 0);
        c = world("method static f(num)none|room 2 1|nload 0|if0 A|nload 0|nload 0|pick 0 A, B|B: done|A: done");
        Calls.due("pick's first one is told first", c.x.kinds(0, X_NUMBER, 0, true), 37004);
        Calls.due("so the second one is not known", c.x.kind(5, -1), -1);
        Calls.due("what was there is as it was", c.x.kind(6, -1), 0);
        c = world("method static f(num)none|room 2 1|nload 0|if0 A|nload 0|nload 0|pick 0 B, A|B: done|A: done");
        Calls.due("in order", c.x.kinds(0, X_NUMBER, 0, true), 37004);
        Calls.due("here it is", c.x.kind(5, -1), 1);
        c = world("method static f(num)none|room 2 1|nload 0|if0 A|nload 0|nload 0|if0 A|done|A: done");
        Calls.due("the label before what is behind it", c.x.kinds(0, X_NUMBER, 0, true), 37004);
        Calls.due("that is not known", c.x.kind(5, -1), -1);
    }

    /** 41: done, ndone, rdone by each result; rdone wants REF where that is num or none. */
    private static void results() {
        String[] results = {"none", "num", "row", "P", "Thing", "G"};
        for (String result : results) {
            both(result.equals("none") ? 0 : 41000, "static f()" + result, "1 0", "done");
            both(result.equals("num") ? 0 : 41001, "static f()" + result, "1 0", "num 1|ndone");
            boolean reference = !result.equals("none") && !result.equals("num");
            both(reference ? 0 : 41001, "static f()" + result, "1 0", "null|rdone");
            both(32001, "static f()" + result, "1 0", "num 1|rdone");
            both(32001, "static f()" + result, "1 0", "null|ndone");
            both(39001, "static f()" + result, "1 0", "new P|rdone");
        }
        both(41001, "static f()none", "1 0", "sget P.x G|rdone");
        both(41001, "static f()num", "1 0", "sget P.x row|rdone");
    }

    /** 40: at done in a <make>, if unmade is still in a local or on the stack. */
    private static void unmadeAtDone() {
        both(40000, "<make>()none", "0 1", "done");
        both(40000, "<make>(num,num)none", "0 5", "done");
        both(0, "<make>()none", "1 1", "null|rstore 0|done");
        both(0, "<make>()none", "1 1", "rload 0|special Q.<make>()none|done");
        both(40003, "<make>()none", "1 3", "rload 0|rstore 2|nop|done");
        both(40004, "<make>()none", "1 3", "rload 0|rstore 2|null|rstore 0|done");
        both(40004, "<make>()none", "1 20", "rload 0|rstore 19|null|rstore 0|done");
        both(40003, "<make>()none", "2 1", "rload 0|null|rstore 0|done");
        both(40004, "<make>()none", "3 1", "num 1|rload 0|null|rstore 0|done");
        both(40004, "<make>()none", "3 1", "rload 0|num 1|null|rstore 0|done");
        both(0, "<make>()none", "2 1", "rload 0|pop|null|rstore 0|done");
        both(0, "<make>()none", "3 2", "rload 0|rload 0|rstore 1|special X.<make>()none|done");
        both(0, "<make>()none", "2 2", "null|rstore 0|new P|new Q|rstore 1|done");
        both(0, "<make>()none", "1 1", "null|throw");
        both(41001, "<make>()none", "1 1", "num 1|ndone");
        both(0, "f()none", "0 1", "done");
        // what was on the stack and is there no more does not count
        both(0, "<make>()none", "3 1", "rload 0|dup|pop|special Q.<make>()none|null|done");
        both(0, "<make>()none", "3 1", "rload 0|dup|pop|special Q.<make>()none|done");
    }

    /** special: of a <make> what stands below the arguments; of others whose class C is; 42. */
    private static void specials() {
        both(0, "static f()none", "2 0", "new P|special P.<make>()none|done");
        both(0, "static f()none", "3 0", "new G|num 1|null|special G.<make>(num,row)none|done");
        both(42001, "static f()none", "2 0", "new Q|special P.<make>()none|done");
        both(42001, "static f()none", "2 0", "new P|special Q.<make>()none|done");
        both(42001, "static f()none", "2 0", "new P|special I.<make>()none|done");
        both(42001, "static f()none", "2 0", "null|special P.<make>()none|done");
        both(42001, "static f()none", "2 0", "num 1|special P.<make>()none|done");
        both(42001, "static f()none", "2 0", "sget X.f P|special P.<make>()none|done");
        both(42001, "static f()none", "2 0", "sget X.f row|special P.<make>()none|done");
        both(32002, "static f()none", "2 0", "new P|null|special P.<make>(num)none|done");
        both(39002, "static f()none", "2 0", "new P|new P|special P.<make>(P)none|done");
        both(42002, "static f()none", "2 0", "num 1|num 1|special P.<make>(num)none|done");
        both(0, "<make>()none", "2 1", "rload 0|special X.<make>()none|done");
        both(0, "<make>()none", "2 1", "rload 0|special Q.<make>()none|done");
        both(42001, "<make>()none", "2 1", "rload 0|special P.<make>()none|done");
        both(42001, "<make>()none", "2 1", "rload 0|special I.<make>()none|done");
        both(42001, "<make>()none", "2 1", "rload 0|special Thing.<make>()none|done");
        // all that are it become C, unmade its own class
        Calls c = world("method <make>()none|room 5 3|new P|dup|new P|rstore 1|rload 1|rstore 2|rload 0|rstore 1|dup|special P.<make>()none|rload 0|special Q.<make>()none|nload 19");
        Calls.due("made", c.x.kinds(0, X_NUMBER, 0, false), 33012);
        int[] before = {4, 4, 5};
        int[] behind = {127, 127, 5};
        for (int i = 0; i < 3; i++) {
            Calls.due("local " + i + " before", c.x.kind(10, i), before[i]);
            Calls.due("local " + i, c.x.kind(12, i), behind[i]);
        }
        Calls.due("two on the stack", c.x.kind(10, -1), 2);
        Calls.due("the lower one", c.x.kind(10, 20), 122);
        Calls.due("the upper one", c.x.kind(10, 21), 122);
        Calls.due("of another new it is NEW still", c.x.kind(12, 2), 5);
        // others
        both(0, "f()none", "1 1", "rload 0|special X.m()none|rload 0|special Q.m()none|rload 0|special I.m()none|rload 0|special J.m()none|done");
        both(42001, "f()none", "1 1", "rload 0|special P.m()none|done");
        both(42001, "f()none", "1 1", "rload 0|special Thing.m()none|done");
        both(42001, "f()none", "1 1", "rload 0|special G.m()none|done");
        both(32001, "f()none", "1 1", "sget X.f Q|special Q.m()none|done");
        both(0, "f()none", "1 1", "null|special Q.m()none|done");
        both(42001, "static f()none", "1 1", "null|special P.m()none|done");
        both(39001, "<make>()none", "1 1", "rload 0|special Q.m()none|done");
        // a face's parent counts as Thing, its faces as they are
        Calls f = new Calls();
        f.x.world(1);
        f.goodIn(0, 2, "face class F : B, E|method f()none|room 1 1|rload 0|special Thing.m()none|rload 0|special E.m()none|rload 0|special F.m()none|done|method g()none|room 1 1|rload 0|special B.m()none|done|end|class B : Thing|end");
        Calls.due("Thing is its parent", f.x.kinds(0, 21, 0, false), 0);
        Calls.due("B is not", f.x.kinds(0, 21, 1, false), 42001);
    }

    /** 38: how many locals and on the stack a frame tells, unset and unmade. */
    private static void framesWrong() {
        for (int n = 0; n <= 20; n += 5) {
            String locals = n == 0 ? "" : "unset" + ", unset".repeat(n - 1);
            String over = n == 0 ? "unset" : "unset" + ", unset".repeat(n);
            String stack = n == 0 ? "" : "num" + ", num".repeat(n - 1);
            checked(0, "static f()none", "0 " + n, "frame " + locals + ";|done");
            checked(38000, "static f()none", "0 " + n, "frame " + over + ";|done");
            checked(0, "static f()none", n + " 0", "done|frame ;" + stack + "|done");
            checked(38001, "static f()none", n + " 0", "done|frame ;" + (n == 0 ? "num" : stack + ", num") + "|done");
        }
        checked(38001, "static f()none", "2 1", "done|frame ;num, unset|done");
        checked(38001, "static f()none", "2 1", "done|frame ;unset, num|done");
        checked(38001, "static f()none", "2 2", "done|frame unset, unmade;|done");
        checked(38001, "static f()none", "2 2", "done|frame ;num, unmade|done");
        checked(0, "<make>()none", "2 2", "null|throw|frame unset, unmade;num|null|throw");
        checked(0, "<make>()none", "2 2", "null|throw|frame unmade;unmade|null|throw");
        checked(38002, "<make>()none", "2 2", "null|throw|frame unmade;unmade, unmade, unmade|null|throw");
        // before 37, each time
        checked(38000, "static f(num)none", "1 1", "frame row, unset;|done");
        checked(38000, "static f(num)none", "1 1", "frame row;unset|done");
        checked(38000, "static f(num)none", "1 1", "jump L|frame row;unmade|L: done");
        checked(38000, "static f(num)none", "1 1", "a: nop|done|frame row;unset|b: done|handler a b b any");
        // a wrong frame that nothing comes to is wrong where it stands
        checked(38002, "static f(num)none", "1 1", "nop|done|frame ;unset|done");
        checked(0, "static f(num)none", "1 1", "nop|done|frame ;|done");
    }

    /** KINDS FIT: each of a local for each that a frame tells, and on the stack. */
    private static void fits() {
        String[] told = {"num", "row", "null", "unset", "unmade", "Thing", "I", "J", "P", "Q", "G", "H", "S", "U", "X"};
        String[] values = {"num", "row", "null", "NEW", "unmade", "unset", "Thing", "I", "P", "Q", "G", "H", "S", "U", "J", "X"};
        for (String a : values) {
            for (String b : told) {
                boolean make = a.equals("unmade") || b.equals("unmade");
                String sign = make ? "<make>()none" : "static f()none";
                String store = a.equals("unset") ? "nop|nop|" : brings(a) + "|" + (a.equals("num") ? "nstore" : "rstore") + " 1|";
                int due = fitRule(a, b);
                checked(due == 0 ? 33002 : 1000 * due + 2, sign, "9 3", store + "frame unset, " + b + ";|nload 9");
                if (!a.equals("unset")) {
                    int onStack = b.equals("unset") ? 38 : due;
                    checked(onStack == 0 ? 33002 : 1000 * onStack + 2, sign, "9 3", "null|" + brings(a) + "|frame ;null, " + b + "|nload 9");
                }
            }
        }
    }

    private static int fitRule(String a, String b) {
        if (b.equals("unset") || a.equals(b)) {
            return 0;
        }
        boolean reference = b.equals("row") || isClass(b);
        if (a.equals("null") && reference || a.equals("row") && b.equals("Thing")) {
            return 0;
        }
        return isClass(a) && isClass(b) ? classFits(a, b, 37) : 37;
    }

    /** A whole state: each local in order, how many are on the stack, each of these, the lowest first. */
    private static void framesFit() {
        String sign = "static f(G,num)none";
        checked(43000, sign, "2 2", "frame P, row;|done");
        checked(37000, sign, "2 2", "frame G, row;|done");
        checked(43000, sign, "2 2", "frame P;num|done");
        checked(37000, sign, "2 2", "frame G, num;num|done");
        checked(37001, sign, "2 2", "num 1|frame G, num;|done");
        checked(37001, sign, "2 2", "num 1|frame G, num;num, num|done");
        checked(0, sign, "2 2", "num 1|frame G, num;num|done");
        checked(43002, sign, "2 2", "sget X.f G|num 1|frame ;P, row|done");
        checked(37002, sign, "2 2", "num 1|sget X.f G|frame ;row, P|done");
        checked(43002, sign, "2 2", "num 1|sget X.f G|frame ;num, P|done");
        checked(37001, sign, "2 2", "sget X.f G|frame ;P, P|done");
        checked(37000, "static f(num,G)none", "2 2", "frame row, P;|done");
        // what a frame tells is what is known behind it
        checked(34000, "static f(num)none", "2 1", "frame ;|nload 0|done");
        Calls c = world("method static f(P,num)none|room 2 4|nop|frame Thing, num;|nload 9");
        c.x.kinds(0, X_NUMBER, 0, false);
        int[] before = {122, 0, 3, 3};
        int[] behind = {100, 0, 3, 3};
        for (int k = 0; k < 4; k++) {
            Calls.due("local " + k, c.x.kind(0, k), before[k]);
            Calls.due("local " + k + " behind the frame", c.x.kind(1, k), behind[k]);
        }
        Calls.due("no fifth local", c.x.kind(1, 4), -1);
        Calls.due("local 19", c.x.kind(1, 19), -1);
        Calls.due("the stack is empty", c.x.kind(1, 20), -1);
        Calls.due("how many", c.x.kind(1, -1), 0);
        c = world("method static f(num,row)none|room 5 3|num 1|null|null|sget X.f P|frame num, row; num, row, Thing, P|pop");
        c.x.kinds(0, X_NUMBER, 0, false);
        int[] stack = {0, 1, 100, 122};
        Calls.due("four on the stack", c.x.kind(4, -1), 4);
        for (int k = 0; k < 4; k++) {
            Calls.due("on the stack " + k, c.x.kind(4, 20 + k), stack[k]);
        }
        int[] told = {0, 1, 3};
        for (int k = 0; k < 3; k++) {
            Calls.due("local " + k, c.x.kind(4, k), told[k]);
        }
        c = world("method static f()none|room 20 20|" + "num 1|nstore 19|" + "num 2|".repeat(20) + "nop|done");
        Calls.due("full", c.x.kinds(0, X_NUMBER, 0, false), 0);
        Calls.due("local 19", c.x.kind(22, 19), 0);
        Calls.due("local 18", c.x.kind(22, 18), 3);
        Calls.due("the twentieth of the stack", c.x.kind(22, 39), 0);
        Calls.due("none behind", c.x.kind(22, 40), -1);
        Calls.due("nineteen", c.x.kind(21, 39), -1);
        Calls.due("how many", c.x.kind(22, -1), 20);
    }

    /** An instruction stands in a handler's span from its first LABEL, the second's is the first behind it. */
    private static void spans() {
        for (int from = 0; from < 4; from++) {
            for (int to = from + 1; to <= 4; to++) {
                StringBuilder lines = new StringBuilder();
                for (int i = 0; i < 4; i++) {
                    lines.append("l").append(i).append(": nop|");
                }
                lines.append("l4: done|frame num;Fault|l5: done|handler l").append(from).append(" l").append(to).append(" l5 any");
                checked(37000 + from, "static f()none", "1 1", lines.toString());
                // num is stored before the span, so that all in it fits, but what is before needs not
                String stored = lines.toString().replace("l" + from + ": nop", "num 1|nstore 0|l" + from + ": nop");
                checked(0, "static f()none", "1 1", stored);
                // behind the span a local is what it wants, in it not
                String changed = stored.replace("l" + to + ": ", "l" + to + ": null|rstore 0|");
                checked(0, "static f()none", "1 1", changed);
                Calls c = world("method static f()none|room 1 1|" + changed);
                Calls.due("frames aside " + changed, c.x.kinds(0, X_NUMBER, 0, true), 0);
                Calls.due("local 0 at the handler", c.x.kind(9, 0), 0);
                Calls.due("the fault", c.x.kind(9, 20), 101);
            }
        }
        both(0, "static f()none", "1 1", "a: done|frame ;Fault|b: throw|handler a b b any");
        // the instruction at the second LABEL stands in it no more: with frames, and frames aside
        checked(0, "static f()none", "2 1", "num 1|nstore 0|a: nop|null|b: rstore 0|done|frame num;Fault|h: done|handler a b h any");
        checked(37004, "static f()none", "2 1", "num 1|nstore 0|a: nop|null|rstore 0|b: done|frame num;Fault|h: done|handler a b h any");
        for (int in = 0; in < 2; in++) {
            Calls c = world("method static f()none|room 2 1|num 1|nstore 0|a: nop|null|" + (in == 0 ? "b: rstore 0|done" : "rstore 0|b: done") + "|h: done|handler a b h any");
            Calls.due("frames aside", c.x.kinds(0, X_NUMBER, 0, true), 0);
            Calls.due("local 0 at the handler", c.x.kind(6, 0), in == 0 ? 0 : 3);
        }
        // till the end of the method
        checked(37001, "static f()none", "1 1", "a: done|frame ;row|b: done|handler b c b any|c:");
    }

    /** 36: no frame there; 37: not one kind on its stack, locals that do not fit, a class that does not; handlers in order. */
    private static void handlersAsk() {
        checked(36000, "static f(num)none", "3 1", "a: nop|b: done|h: done|handler a b h any");
        String[] frames = {"frame ;", "frame ;Fault, num", "frame ;Fault", "frame ;Thing", "frame ;NullFault", "frame ;num", "frame ;row", "frame ;G", "frame ;I", "frame row;Fault", "frame num;Fault",
            "frame G;Fault", "frame ;unset", "frame unset, unset;Fault"};
        int[] due = {37, 37, 0, 0, 37, 37, 37, 43, 0, 37, 0, 37, 38, 38};
        for (int i = 0; i < frames.length; i++) {
            checked(1000 * due[i], "static f(num)none", "3 1", "a: nop|b: done|" + frames[i] + "|h: done|handler a b h any");
        }
        // the handler's class: as it is, below, not there
        checked(0, "static f(num)none", "3 1", "a: nop|b: done|frame ;NullFault|h: done|handler a b h NullFault");
        checked(0, "static f(num)none", "3 1", "a: nop|b: done|frame ;Fault|h: done|handler a b h NullFault");
        checked(37000, "static f(num)none", "3 1", "a: nop|b: done|frame ;ZeroFault|h: done|handler a b h NullFault");
        checked(43000, "static f(num)none", "3 1", "a: nop|b: done|frame ;Fault|h: done|handler a b h G");
        checked(0, "static f(num)none", "3 1", "a: nop|b: done|frame ;G|h: done|handler a b h G");
        checked(0, "static f(num)none", "3 1", "a: nop|b: done|frame ;Thing|h: done|handler a b h G");
        checked(37000, "static f(num)none", "3 1", "a: nop|b: done|frame ;Fault|h: done|handler a b h Thing");
        // in order
        String two = "a: nop|b: done|frame ;Fault|g: done|frame row;Fault|h: done|frame ;G|i: done|k: done|";
        checked(37000, "static f(num)none", "3 1", two + "handler a b h any|handler a b i any");
        checked(43000, "static f(num)none", "3 1", two + "handler a b i any|handler a b h any");
        checked(36000, "static f(num)none", "3 1", two + "handler a b k any|handler a b h any");
        checked(43000, "static f(num)none", "3 1", two + "handler a b g any|handler a b i any");
        // its stack's number, then the locals, then its class
        checked(37000, "static f(G)none", "3 1", "a: nop|b: done|frame P;|h: done|handler a b h H");
        checked(43000, "static f(G)none", "3 1", "a: nop|b: done|frame P;num|h: done|handler a b h H");
        checked(37000, "static f(num)none", "3 1", "a: nop|b: done|frame row;Fault|h: done|handler a b h H");
        // before the instruction's own rules, behind its frame
        checked(36000, "static f(num)none", "3 1", "a: pop|b: done|h: done|handler a b h any");
        checked(37000, "static f(num)none", "3 1", "frame row;|a: pop|b: done|h: done|handler a b h any");
        checked(37000, "static f(num)none", "3 1", "a: pop|b: done|frame row;Fault|h: done|handler a b h any");
        checked(31000, "static f(num)none", "3 1", "a: pop|b: done|frame num;Fault|h: done|handler a b h any");
    }

    /** An instruction that stores and the call of <make> ask handlers once more behind the act, others do not. */
    private static void handlersBehindActs() {
        String ends = "|b: done|frame num;Fault|h: done|handler a b h any";
        checked(37001, "static f(num)none", "2 1", "null|a: rstore 0" + ends);
        checked(0, "static f(num)none", "2 1", "num 1|a: nstore 0" + ends);
        checked(37001, "static f(num)none", "2 1", "num 1|a: nstore 0" + ends.replace("frame num", "frame row"));
        checked(37001, "static f(row)none", "2 1", "num 1|a: nstore 0" + ends.replace("frame num", "frame row"));
        checked(0, "static f(row)none", "2 1", "null|a: rstore 0" + ends.replace("frame num", "frame row"));
        checked(0, "static f(num)none", "2 1", "a: inc 0 1" + ends);
        String make = "<make>()none";
        checked(37001, make, "2 1", "rload 0|a: special Q.<make>()none" + ends.replace("frame num", "frame unmade"));
        checked(37001, make, "2 1", "rload 0|a: special Q.<make>()none" + ends.replace("frame num", "frame X"));
        checked(0, make, "2 1", "rload 0|a: special Q.<make>()none" + ends.replace("frame num", "frame"));
        checked(0, "f()none", "2 1", "rload 0|a: special Q.m()none" + ends.replace("frame num", "frame X"));
        // 32 before what is asked behind the act, that before 36, 37 where it goes
        checked(32001, "static f(num)none", "2 1", "num 1|a: rstore 0" + ends);
        checked(37001, "static f(num)none", "2 1", "null|a: rstore 0|b: pop|done|frame num;Fault|h: done|handler a b h any");
        checked(37001, "static f(num)none", "2 1", "null|a: rstore 0|frame num;Fault|h: done|handler a h h any");
    }

    /** Frames aside: the locals, with the handler's class alone, go to where it goes; 30 when STACK is 0. */
    private static void inferredHandlers() {
        inferred(30000, "static f(num)none", "0 1", "a: nop|b: done|h: done|handler a b h any");
        inferred(0, "static f(num)none", "1 1", "a: nop|b: done|h: done|handler a b h any");
        inferred(0, "static f(num)none", "0 1", "nop|done|a: nop|b: done|h: done|handler a b h any");
        inferred(30000, "static f(num)none", "0 1", "a: pop|b: done|h: done|handler a b h any");
        inferred(30005, "static f(num)none", "1 3", "a: num 1|nstore 1|null|rstore 2|b: done|h: nload 0|done|handler a b h any");
        inferred(34005, "static f(num)none", "2 3", "a: num 1|nstore 1|null|rstore 2|b: done|h: nload 1|done|handler a b h any");
        Calls c = world("method static f(num)none|room 2 3|a: num 1|nstore 1|null|rstore 2|b: done|h: nload 0|pop|done|g: nload 0|done|handler a b h any|handler a b g ZeroFault|handler b h h G");
        Calls.due("two handlers", c.x.kinds(0, X_NUMBER, 0, true), 0);
        int[] atH = {0, 3, 3};
        for (int k = 0; k < 3; k++) {
            Calls.due("h local " + k, c.x.kind(5, k), atH[k]);
            Calls.due("g local " + k, c.x.kind(8, k), atH[k]);
        }
        Calls.due("Fault and G: Thing", c.x.kind(5, 20), 100);
        Calls.due("one of them", c.x.kind(8, 20), 103);
        Calls.due("one on the stack", c.x.kind(8, -1), 1);
        // a store's kinds go to the handler, too: num before, row behind
        c = world("method static f(row)none|room 2 2|num 1|nstore 1|null|a: rstore 1|b: done|h: pop|done|handler a b h any");
        Calls.due("before and behind the store", c.x.kinds(0, X_NUMBER, 0, true), 0);
        Calls.due("both", c.x.kind(5, 1), 3);
        c = world("method static f(row)none|room 2 2|a: num 1|nstore 1|null|b: nop|rstore 1|done|h: pop|done|handler a b h any");
        Calls.due("the store stands behind the span", c.x.kinds(0, X_NUMBER, 0, true), 0);
        Calls.due("unset and num", c.x.kind(6, 1), 3);
        c = world("method <make>()none|room 2 1|rload 0|a: special Q.<make>()none|b: done|h: throw|handler a b h any");
        Calls.due("a <make>", c.x.kinds(0, X_NUMBER, 0, true), 0);
        Calls.due("unmade and X", c.x.kind(3, 0), 3);
        c = world("method <make>()none|room 2 1|rload 0|special Q.<make>()none|a: nop|b: done|h: throw|handler a b h any");
        Calls.due("behind it", c.x.kinds(0, X_NUMBER, 0, true), 0);
        Calls.due("X", c.x.kind(4, 0), 127);
    }

    /** kinds() tells the same each time, also of another method between. */
    private static void inferredAgain() {
        Calls c = world("method static f()none|room 1 1|jump M|L: pop|done|M: jump L|method static g()none|room 1 1|jump M|L: nop|nop|done|M: jump L");
        for (int i = 0; i < 3; i++) {
            Calls.due("a jump back to what breaks 31", c.x.kinds(0, X_NUMBER, 0, true), 31001);
            Calls.due("its state was known", c.x.kind(1, -1), 0);
            Calls.due("not what is behind it", c.x.kind(2, -1), -1);
            Calls.due("with frames", c.x.kinds(0, X_NUMBER, 0, false), 36000);
            Calls.due("only the first is known", c.x.kind(1, -1), -1);
            if (i == 1) {
                Calls.due("another method", c.x.kinds(0, X_NUMBER, 1, true), 0);
                Calls.due("all is known", c.x.kind(3, -1), 0);
            }
        }
    }

    /** What goes where: joined on the stack, 37; another number, 37. */
    private static void inferredWays() {
        String[] kinds = {"num", "row", "null", "P", "Q", "Thing", "G", "NEW"};
        for (String a : kinds) {
            for (String b : kinds) {
                boolean same = a.equals(b) && !a.equals("NEW");
                boolean references = !a.equals("num") && !b.equals("num") && !a.equals("NEW") && !b.equals("NEW");
                String lines = "nload 0|if0 L|" + brings(a) + "|jump M|L: " + brings(b) + "|M: pop|done";
                inferred(same || references ? 0 : 37004, "static f(num)none", "1 1", lines);
            }
        }
        inferred(0, "static f(num)none", "1 2", "nload 0|if0 L|new P|rstore 1|jump M|L: num 1|nstore 1|M: done");
        inferred(34007, "static f(num)none", "1 2", "nload 0|if0 L|new P|rstore 1|jump M|L: num 1|nstore 1|M: nload 1|done");
        inferred(37004, "static f(num)none", "2 1", "nload 0|if0 M|num 1|num 1|if0 M|pop|M: done");
        inferred(37003, "static f(num)none", "2 1", "nload 0|if0 M|nop|num 1|M: done");
        inferred(37002, "static f(num)none", "2 1", "M: nload 0|nload 0|if0 M|pop|done");
        inferred(0, "static f(num)none", "2 1", "M: nload 0|nload 0|pop|if0 M|done");
        // the same NEW is that, one that comes round again is another one only by its number
        Calls c = world("method static f(num)none|room 2 2|new P|rstore 1|L: nload 0|if0 L|rload 1|pop|done");
        Calls.due("NEW stays", c.x.kinds(0, X_NUMBER, 0, true), 0);
        Calls.due("it is NEW", c.x.kind(2, 1), 5);
        c = world("method static f(num)none|room 2 2|L: new P|rstore 1|nload 0|if0 L|done");
        Calls.due("unset and NEW", c.x.kinds(0, X_NUMBER, 0, true), 0);
        Calls.due("unset", c.x.kind(0, 1), 3);
        Calls.due("behind the store", c.x.kind(2, 1), 5);
    }

    /** Behind 100 rounds that changed something 44, at instruction 0. */
    private static void inferredRounds() {
        // The first chain of jumps back takes n rounds, the second one k, and one more changes what the second began with.
        int[][] chains = {{10, 10, 0}, {49, 48, 0}, {49, 49, 0}, {50, 49, 44000}, {49, 50, 44000}, {50, 50, 44000}};
        for (int[] one : chains) {
            int n = Math.max(one[0], one[1]);
            StringBuilder s = new StringBuilder("method static f()none|room 1 1|null|rstore 0|jump J" + (one[0] - 1)
                + "|B: sget X.s Thing|rstore 0|jump J" + (one[1] - 1) + "|J0: jump B");
            for (int i = 1; i < n; i++) {
                s.append("|J").append(i).append(": jump J").append(i - 1);
            }
            Calls c = world(s.toString());
            Calls.due((one[0] + one[1] + 1) + " rounds", c.x.kinds(0, X_NUMBER, 0, true), one[2]);
        }
    }
}
