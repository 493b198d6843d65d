import java.util.ArrayList;
import java.util.List;
import java.util.TreeSet;

/** What is told of a class does not depend on where it stands: four classes in each order, with others in front and without. */
public final class OrderOfClassesTest {
    private static final String[] NAMES = {"F", "A", "B", "C"};
    private static final String[] TEXTS = {
        "face class F : Thing|field static final y num = 40|method abstract a(num)num|method d()num|room 2 2|handler s e h any|s: rload 0|num 0|facecall F.a(num)num|e: ndone|frame F;Fault|h: pop|num -1|ndone|end",
        "class A : Thing, F|field private static x num = 3|field n num|field static r row|field final o Thing|method <make>()none|room 2 1|rload 0|special Thing.<make>()none|rload 0|rload 0|fput A.o Thing|done"
            + "|method a(num)num|room 3 2|handler s e h ZeroFault|s: nload 1|pick 0 p, q, t|frame A, num;|p: num 10|ndone|frame A, num;|q: num 1|nload 1|num 1|sub|div|ndone|frame A, num;|t: nload 1|num 5|add|e: ndone|frame A, num; ZeroFault|h: pop|num 99|ndone"
            + "|method static go()num|room 4 1|new A|dup|special A.<make>()none|rstore 0|rload 0|num 0|call A.a(num)num|rload 0|num 1|call A.a(num)num|add|rload 0|num 7|call A.a(num)num|add|rload 0|facecall F.d()num|add|sget A.x num|add|ndone"
            + "|method static <start>()none|room 1 0|num 2|newrow|sput A.r row|done|end",
        "class B : A|field static z num = 8|field m num|method <make>()none|room 2 1|rload 0|special A.<make>()none|rload 0|num 6|fput B.m num|done|method a(num)num|room 3 2|handler s e h any|s: rload 0|nload 1|special A.a(num)num|e: num 2|mul|ndone|frame B, num; Fault|h: pop|num 0|ndone"
            + "|method static go()num|room 4 2|num 1|pick 0 p, q|frame ;|p: num 1|ndone|frame;|q: new B|dup|special B.<make>()none|rstore 0|rload 0|num 4|call A.a(num)num|rload 0|fget B.m num|add|sget B.y num|add|ndone|method bad()none|room 1 1|sget A.x num|pop|new Gone|pop|done|end",
        "class C : Thing|field private final static k num = 2|field static l A|method static <start>()none|room 2 0|num 9|sput C.k num|done|method static go()num|room 5 2|handler s e h LinkFault|handler s e i any|num 0|nstore 1|s: new B|dup|special B.<make>()none|dup|sput C.l A|facecall F.d()num|sget C.k num|add"
            + "|sget A.x num|e: add|ndone|frame unset, num; LinkFault|h: pop|sget C.l A|num 3|call A.a(num)num|ndone|frame;Fault|i: pop|num -5|ndone|end"};
    private static final String FRONT = "face class Y : Thing|field static final a num = 1|field static final b row|method u()none|room 2 2|handler s e h any|s: nop|e: done|frame;Fault|h: pop|done|method v()none|room 3 3|L: num 1|pick 3 L, M, L|frame num, row; num|M: pop|done|end"
        + "|abstract class Z : Fault, Y|field a row|field static b num = 77|field c Z|method abstract w(num, row)row|method x()none|room 1 4|handler s e s Z|s: nop|e: done|method static z()num|room 1 0|num 3|ndone|end";

    public static void main(String[] args) {
        List<List<Integer>> orders = new ArrayList<>();
        permute(new ArrayList<>(), orders);
        Calls.due("orders", orders.size(), 24);
        List<String> due = null;
        for (int front = 0; front < 2; front++) {
            for (List<Integer> order : orders) {
                List<String> told = new Order(order, front == 1).profile();
                if (due == null) {
                    due = told;
                    Calls.due("what is told", due.size(), 54);
                }
                for (int i = 0; i < due.size(); i++) {
                    Calls.same("with " + order + " " + front + " part " + i, told.get(i) + "\n", due.get(i) + "\n");
                }
            }
        }
        Calls.end();
    }

    private static void permute(List<Integer> first, List<List<Integer>> orders) {
        if (first.size() == 4) {
            orders.add(new ArrayList<>(first));
        }
        for (int i = 0; i < 4; i++) {
            if (!first.contains(i)) {
                first.add(i);
                permute(first, orders);
                first.remove(first.size() - 1);
            }
        }
    }

    /** The classes in one order; each part of what is told comes from an object of its own. */
    private static final class Order {
        private final List<Integer> order;
        private final boolean front;
        private final int begin;
        private Calls c;

        Order(List<Integer> o, boolean f) {
            order = o;
            front = f;
            begin = f ? 23 : 21;
        }

        private void made() {
            c = new Calls();
            c.x.world(0);
            StringBuilder text = new StringBuilder();
            for (int k : order) {
                text.append(TEXTS[k]).append('|');
            }
            if (front) {
                Calls.due("in front", c.define(0, FRONT.replace('|', '\n')), 2);
            }
            Calls.due("classes", c.define(0, text.toString().replace('|', '\n')), 4);
        }

        private int number(int k) {
            return begin + order.indexOf(k);
        }

        private String name(int cls) {
            return cls >= begin ? NAMES[order.get(cls - begin)] : "" + cls;
        }

        List<String> profile() {
            List<String> told = new ArrayList<>();
            for (int k = 0; k < 4; k++) {
                members(k, told);
                printed(k, told);
                told.add(foretold(k));
                made();
                int methods = c.x.told(0, number(k), 3);
                for (int m = 0; m < methods; m++) {
                    told.add(kinds(k, m, false));
                    told.add(kinds(k, m, true));
                    told.add(reached(k, m));
                }
            }
            told.add(linked());
            runs(told);
            told.add(differences());
            told.add(asked());
            return told;
        }

        private void members(int k, List<String> told) {
            made();
            int n = number(k);
            StringBuilder s = new StringBuilder("parent " + name(c.x.told(0, n, 0)));
            for (int what = 1; what < 7; what++) {
                s.append(' ').append(c.x.told(0, n, what));
            }
            for (int m = 0; c.x.member(0, n, m, 0) >= 0; m++) {
                s.append(" method");
                for (int what = 0; what < 5; what++) {
                    s.append(' ').append(c.x.member(0, n, m, what));
                }
                s.append(' ').append((char) c.x.name(0, n, 1, m, 0)).append(c.x.name(0, n, 1, m, 1));
            }
            for (int m = 0; c.x.member(0, n, m, 5) >= 0; m++) {
                s.append(" field ").append(c.x.member(0, n, m, 5)).append(' ').append(c.x.member(0, n, m, 6)).append(' ').append((char) c.x.name(0, n, 0, m, 0)).append(c.x.fixed(0, n, m));
            }
            told.add(s.toString());
        }

        private void printed(int k, List<String> told) {
            int size = 1;
            StringBuilder s = new StringBuilder();
            while (s.length() < size) {
                made();
                size = c.x.print(0, number(k));
                for (int i = 0; i < 250 && s.length() < size; i++) {
                    s.append((char) c.x.written(s.length()));
                }
            }
            told.add(s.toString());
        }

        private String foretold(int k) {
            made();
            StringBuilder s = new StringBuilder("foretold");
            for (int i = 0; c.x.foretell(0, number(k), i, 0) >= 0; i++) {
                for (int what = 0; what < 3; what++) {
                    s.append(' ').append(c.x.foretell(0, number(k), i, what));
                }
            }
            return s.toString();
        }

        private String kinds(int k, int m, boolean inferred) {
            made();
            StringBuilder s = new StringBuilder("kinds " + c.x.kinds(0, number(k), m, inferred));
            int codes = c.x.member(0, number(k), m, 4);
            for (int at = 0; at < codes; at++) {
                int depth = c.x.kind(at, -1);
                s.append(" ; ").append(depth);
                for (int i = 0; i < 2 && depth >= 0; i++) {
                    int kind = c.x.kind(at, i);
                    s.append(' ').append(kind >= 121 ? name(kind - 100) : "" + kind);
                }
                for (int i = 20; i < 20 + depth; i++) {
                    int kind = c.x.kind(at, i);
                    s.append(' ').append(kind >= 121 ? name(kind - 100) : "" + kind);
                }
            }
            return s.toString();
        }

        /** For each object's class by numbers: so only which are reached is the same. */
        private String reached(int k, int m) {
            made();
            TreeSet<String> s = new TreeSet<>();
            int n = c.x.reach(0, number(k), m);
            for (int i = 0; i < n; i++) {
                int one = c.x.reached(i);
                s.add(name(one / 100) + one % 100);
            }
            return n + " " + s;
        }

        private String linked() {
            StringBuilder s = new StringBuilder("linked");
            for (int k = 0; k < 4; k++) {
                made();
                s.append(' ').append(c.x.link(0, number(k)));
                for (int j = 0; j < 4; j++) {
                    s.append(c.x.told(0, number(j), 6));
                }
            }
            return s.toString();
        }

        private void runs(List<String> told) {
            int[] due = {0, 134, 64, 16};
            for (int k = 1; k < 4; k++) {
                made();
                c.call(0, k - 1, NAMES[k] + ".go()num");
                c.x.step(0, 999);
                Calls.due("what " + NAMES[k] + ".go() ends with", c.x.run(0, k - 1, 3), due[k]);
                StringBuilder s = new StringBuilder();
                for (int what = 0; what < 7; what++) {
                    s.append(c.x.run(0, k - 1, what)).append(' ');
                }
                for (int i = 0; i < c.x.run(0, 0, 12); i++) {
                    s.append(name(c.x.started(0, i)));
                }
                for (int i = 0; i < 22; i++) {
                    int cls = c.x.trace(0, i, 2);
                    s.append(' ').append(c.x.trace(0, i, 0)).append(cls < 0 ? "" : name(cls)).append(c.x.trace(0, i, 3)).append(' ').append(c.x.trace(0, i, 4));
                }
                for (int r = 1; r < 4; r++) {
                    int cls = c.x.object(0, r, -1);
                    s.append(" object ").append(cls < 0 ? "" + cls : name(cls));
                    for (int i = -3; i < 4; i++) {
                        s.append(' ').append(i == -1 ? 0 : c.x.object(0, r, i));
                    }
                }
                s.append(" fixed ").append(c.x.fixed(0, number(1), 0)).append(c.x.fixed(0, number(1), 2)).append(c.x.fixed(0, number(2), 0)).append(c.x.fixed(0, number(3), 0)).append(c.x.fixed(0, number(3), 1));
                s.append(" collected ").append(c.x.collect(0)).append(' ').append(c.x.run(0, 0, 10)).append(c.x.run(0, 0, 11));
                told.add(s.toString());
            }
        }

        private String differences() {
            made();
            c.x.world(0);
            c.define(1, TEXTS[3].replace("num 9", "num 8").replace('|', '\n'));
            StringBuilder s = new StringBuilder("differ");
            for (int k = 0; k < 4; k++) {
                for (int j = 0; j < 4; j++) {
                    for (int what = 0; what < 4; what++) {
                        s.append(' ').append(c.x.differ(0, number(k), 0, number(j), what));
                    }
                }
                for (int what = 0; what < 4; what++) {
                    s.append(' ').append(c.x.differ(0, number(k), 1, 21, what)).append(c.x.differ(1, 21, 0, number(k), what));
                }
            }
            return s.toString();
        }

        private String asked() {
            made();
            StringBuilder s = new StringBuilder("asked");
            for (String one : new String[] {"A.a(num)num", "B.a(num)num", "A.d()num", "B.bad()none", "C.go()num"}) {
                for (int k = 0; k < 4; k++) {
                    int m = c.asked(0, number(k), one);
                    s.append(' ').append(m < 0 ? "" + m : name(m / 100) + m % 100);
                }
            }
            return s.toString();
        }
    }
}
