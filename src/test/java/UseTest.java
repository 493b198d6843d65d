import java.nio.file.Files;
import java.nio.file.Path;
import java.util.regex.Matcher;
import java.util.regex.Pattern;

/** What README.md says of how the class is used: each call of its examples with the answer that stands behind it. */
public final class UseTest {
    // A line of README's examples: [int NAME =] x.CALL;   // ANSWER..
    private static final Pattern CALL = Pattern.compile("(int \\w+ = )?(x\\.\\w+\\(.*\\));\\s*// (-?\\d+).*");
    private static final String CLASSES = """
        class Count : Thing
         field static seen num
         method static half(num)num
          room 2 1
          sget Count.seen num
          num 1
          add
          sput Count.seen num
          nload 0
          num 2
          div
          ndone
        end
        """;
    private static final String TRIAL = """
        class Safe : Thing
         method static private code()num
          room 1 0
          nop
          num 7
          ndone
        end
        run Safe.code()num
        """;

    public static void main(String[] args) throws Exception {
        ClassWorks x = new ClassWorks();
        classes(x);
        runs(x);
        trials(x);
        refusals(x);
        readmeIsSo(args.length > 0 ? args[0] : "src/main/java/ClassWorks.java");
        Calls.end();
    }

    private static void due(int got, int want) {
        Calls.due("a call of README", got, want);
    }

    static void feed(ClassWorks x, String text) {
        for (int i = 0; i < text.length(); i += 20) {
            int[] four = new int[5];
            for (int k = 0; k < 20; k++) {
                int c = i + k < text.length() ? text.charAt(i + k) : ' ';
                four[k / 4] = four[k / 4] << 8 | c;
            }
            x.feed(four[0], four[1], four[2], four[3], four[4]);
        }
        x.cut((20 - text.length() % 20) % 20);
    }

    private static void classes(ClassWorks x) {
        int w = x.world(0);
        due(w, 0);
        feed(x, CLASSES);
        due(x.define(w), 1);
        due(x.count(2), 0);
        due(x.classes(w), 1);
        due(x.told(w, 21, 3), 1);
        due(x.name(w, 21, 0, -1, 0), 67);
        due(x.link(w, 21), 0);
        feed(x, "class Two : Thing\n nonsense\nend\n");
        due(x.define(w), -11);
        due(x.place(), 19);
    }

    private static void runs(ClassWorks x) {
        int w = 0;
        feed(x, "Count.half(num)num : 84");
        due(x.call(w, 0), 0);
        due(x.step(w, 5), 1);
        due(x.run(w, 0, 0), 1);
        due(x.run(w, 0, 9), 5);
        due(x.value(w, 0, true, 0), 84);
        due(x.fixed(w, 21, 0), 1);
        due(x.step(w, 4000), 0);
        due(x.run(w, 0, 0), 0);
        due(x.run(w, 0, 2), 1);
        due(x.run(w, 0, 3), 42);
        due(x.run(w, 0, 1), 8);
    }

    private static void trials(ClassWorks x) {
        feed(x, TRIAL);
        int t = x.trial();
        due(t, 0);
        due(x.outcome(t, 0, 0), 4);
        due(x.outcome(t, 0, 1), 5314);
        due(x.meets(t), 53);
        due(x.outcome(t, 32, 0), 2);
        due(x.outcome(t, 32, 1), 7);
        due(x.finds(t, 32), 1);
        due(x.shrink(t, 32), 7);
        due(x.change(t, 0, 5, 0), 1);
        due(x.meets(1), 1);
        due(x.hole(0), 2);
        due(x.fewest(), 2);
        due(x.least(), 2);
    }

    private static void refusals(ClassWorks x) {
        int w = 0;
        due(x.told(w, 99, 0), -1);
        due(x.told(w, 0, 0), -2);
        due(x.world(0), 1);
        due(x.world(0), 2);
        due(x.world(0), -3);
    }

    /** Each call in an example of README is made above, and has the answer that README tells; the texts are these, too. */
    private static void readmeIsSo(String program) throws Exception {
        Path root = Path.of(program).toAbsolutePath().getParent().getParent().getParent().getParent();
        String readme = Files.readString(root.resolve("README.md"));
        String source = Files.readString(root.resolve("src/test/java/UseTest.java"));
        boolean inExample = false;
        int calls = 0;
        for (String line : readme.split("\n")) {
            inExample = line.startsWith("```") ? line.startsWith("```java") : inExample;
            Matcher call = CALL.matcher(line.strip());
            if (inExample && call.matches()) {
                calls++;
                String made = call.group(1) == null ? "due(" + call.group(2) + ", " + call.group(3) + ");"
                    : call.group(1) + call.group(2) + ";";
                Calls.due("README's line is tested: " + line, source.contains(made) ? 1 : 0, 1);
            } else if (inExample && !line.startsWith("```") && !line.isBlank()) {
                Calls.due("README's line stands here: " + line, source.contains(line.strip()) ? 1 : 0, 1);
            }
        }
        Calls.due("README has calls", calls > 30 ? 1 : 0, 1);
        Calls.due("README's classes", readme.contains(CLASSES) ? 1 : 0, 1);
        Calls.due("README's trial", readme.contains(TRIAL) ? 1 : 0, 1);
    }
}
