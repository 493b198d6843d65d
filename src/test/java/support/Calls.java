/** What the project's tests share: an object under test, texts fed to it, and answers compared. */
public final class Calls {
    public final ClassWorks x = new ClassWorks();
    private static int wrong = 0;
    private static int asked = 0;

    public static void due(String what, int got, int want) {
        asked++;
        if (got != want) {
            wrong++;
            System.out.println(what + " answered " + got + ", due is " + want);
        }
    }

    /** The text comes on the tape: how many bytes it has then. */
    public int tape(String text) {
        int n = text.length();
        for (int i = 0; i < n; i += 20) {
            int[] w = new int[5];
            for (int k = 0; k < 20; k++) {
                int c = i + k < n ? text.charAt(i + k) & 255 : ' ';
                w[k / 4] = w[k / 4] << 8 | c;
            }
            x.feed(w[0], w[1], w[2], w[3], w[4]);
        }
        return x.cut((20 - n % 20) % 20);
    }

    public int define(int world, String... lines) {
        tape(String.join("\n", lines));
        return x.define(world);
    }

    public int call(int world, int thread, String call) {
        tape(call);
        return x.call(world, thread);
    }

    public int asked(int world, int k, String line) {
        tape(line);
        return x.asked(world, k);
    }

    public int trial(String... lines) {
        tape(String.join("\n", lines));
        return x.trial();
    }

    /** A class is WRITTEN. */
    public String print(int world, int c) {
        int n = x.print(world, c);
        StringBuilder s = new StringBuilder();
        for (int i = 0; i < n; i++) {
            s.append((char) x.written(i));
        }
        return s.toString();
    }

    public static void same(String what, String got, String want) {
        asked++;
        if (!got.equals(want)) {
            wrong++;
            System.out.println(what + " was\n" + got + "due is\n" + want);
        }
    }

    /** A text, | for a line's end, is refused in a new world for this rule; where ^ stands is its place. */
    public static void refused(int rule, String told) {
        Calls c = new Calls();
        c.x.world(0);
        c.refusedIn(0, rule, told);
        due("nothing came of " + told, c.x.classes(0), 0);
    }

    public void refusedIn(int world, int rule, String told) {
        due(told, define(world, told.replace("^", "").replace('|', '\n')), -10 - rule);
        due("place of " + told, x.place(), told.indexOf('^'));
        due("the tape is empty behind " + told, x.count(2), 0);
    }

    /** A text, | for a line's end, brings so many classes into a new world. */
    public static Calls good(int classes, String told) {
        Calls c = new Calls();
        c.x.world(0);
        c.goodIn(0, classes, told);
        return c;
    }

    public void goodIn(int world, int classes, String told) {
        due(told, define(world, told.replace('|', '\n')), classes);
        due("place of " + told, x.place(), -2);
        due("the tape is empty behind " + told, x.count(2), 0);
    }

    public static void end() {
        System.out.println(asked + " answers asked, " + wrong + " wrong");
        if (wrong != 0 || asked == 0) {
            System.exit(1);
        }
    }
}
