import com.sun.source.tree.*;
import com.sun.source.util.*;
import java.io.File;
import java.util.*;
import javax.lang.model.element.*;
import javax.lang.model.type.TypeMirror;
import javax.tools.*;

/** Asks the rules of LANGUAGE.md that a reader of the tree can ask: args are the source file. */
public final class LanguageCheck {
    private static final int LINES_MOST = 60;
    private static final int CALLS_DEEP = 8;
    private static final Set<String> LIBRARY = Set.of(
        "Arrays.fill", "Arrays.copyOf", "Arrays.copyOfRange", "System.arraycopy", "Math.min", "Math.max", "Math.abs",
        "String.charAt", "String.length");
    private static int wrong = 0;
    private static final Map<Element, Set<Element>> calls = new LinkedHashMap<>();
    private static final Map<Element, Integer> deep = new HashMap<>();

    private static void say(String what) {
        wrong++;
        System.out.println("LanguageCheck: " + what);
    }

    public static void main(String[] args) throws Exception {
        JavaCompiler compiler = ToolProvider.getSystemJavaCompiler();
        StandardJavaFileManager files = compiler.getStandardFileManager(null, null, null);
        JavacTask task = (JavacTask) compiler.getTask(null, files, null, List.of("-proc:none", "-d", System.getProperty("java.io.tmpdir")),
            null, files.getJavaFileObjects(new File(args[0])));
        CompilationUnitTree unit = task.parse().iterator().next();
        task.analyze();
        Trees trees = Trees.instance(task);
        new Visitor(unit, trees).scan(unit, null);
        Visitor.askClasses();
        askDepth();
        System.out.println(wrong == 0 ? "LanguageCheck: all rules hold" : "LanguageCheck: " + wrong + " wrong");
        if (wrong != 0) {
            System.exit(1);
        }
    }

    private static void askDepth() {
        int most = 0;
        Element deepest = null;
        for (Element e : calls.keySet()) {
            if (e.getModifiers().contains(Modifier.PUBLIC)) {
                int d = depth(e, new ArrayDeque<>());
                if (d > most) {
                    most = d;
                    deepest = e;
                }
            }
        }
        System.out.println("LanguageCheck: calls go " + most + " deep");
        if (most > CALLS_DEEP) {
            say("calls go " + most + " deep: " + path(deepest));
        }
    }

    private static String path(Element from) {
        StringBuilder s = new StringBuilder();
        for (Element e = from; e != null;) {
            s.append(e.getEnclosingElement().getSimpleName()).append('.').append(e.getSimpleName()).append(" > ");
            Element next = null;
            for (Element c : calls.getOrDefault(e, Set.of())) {
                if (next == null || deep.getOrDefault(c, 0) > deep.getOrDefault(next, 0)) {
                    next = c;
                }
            }
            e = next;
        }
        return s.toString();
    }

    private static int depth(Element e, Deque<Element> open) {
        if (open.contains(e)) {
            say("recursion at " + e);
            return 0;
        }
        Integer known = deep.get(e);
        if (known != null) {
            return known;
        }
        open.push(e);
        int d = 0;
        for (Element c : calls.getOrDefault(e, Set.of())) {
            d = Math.max(d, 1 + depth(c, open));
        }
        open.pop();
        deep.put(e, d);
        return d;
    }

    private static final class Visitor extends TreePathScanner<Void, Void> {
        private static final Map<String, Integer> fields = new TreeMap<>();
        private static final Set<String> publics = new TreeSet<>();
        private static final Map<String, String> privates = new TreeMap<>();
        private static int classes = 0;
        private final CompilationUnitTree unit;
        private final Trees trees;
        private Element method = null;

        Visitor(CompilationUnitTree u, Trees t) {
            unit = u;
            trees = t;
        }

        static void askClasses() {
            if (classes > 13) {
                say(classes + " classes");
            }
            fields.forEach((c, n) -> {
                if (n > 24) {
                    say(c + " has " + n + " fields");
                }
            });
            privates.forEach((m, c) -> {
                if (publics.contains(m)) {
                    say("private method " + m + " of " + c + " bears the name of a public one");
                }
            });
        }

        private long line(long position) {
            return unit.getLineMap().getLineNumber(position);
        }

        private void sayAt(Tree t, String what) {
            say("line " + line(trees.getSourcePositions().getStartPosition(unit, t)) + ": " + what);
        }

        @Override public Void visitClass(ClassTree c, Void v) {
            classes++;
            Element e = trees.getElement(getCurrentPath());
            boolean nested = e.getEnclosingElement().getKind() == ElementKind.CLASS;
            if (nested && !e.getModifiers().contains(Modifier.STATIC)) {
                sayAt(c, "a class that is not static");
            }
            if (e.getSimpleName().length() == 0) {
                sayAt(c, "a class without a name");
            }
            return super.visitClass(c, v);
        }

        @Override public Void visitMethod(MethodTree m, Void v) {
            Element before = method;
            method = trees.getElement(getCurrentPath());
            calls.putIfAbsent(method, new LinkedHashSet<>());
            long from = line(trees.getSourcePositions().getStartPosition(unit, m));
            long to = line(trees.getSourcePositions().getEndPosition(unit, m));
            if (to - from + 1 > LINES_MOST) {
                sayAt(m, m.getName() + " has " + (to - from + 1) + " lines");
            }
            if (m.getParameters().size() > 7) {
                sayAt(m, m.getName() + " has too many parameters");
            }
            boolean outer = method.getEnclosingElement().getEnclosingElement().getKind() == ElementKind.PACKAGE;
            Set<Modifier> flags = method.getModifiers();
            if (outer && flags.contains(Modifier.PUBLIC)) {
                publics.add(m.getName().toString());
            } else if (outer && !flags.contains(Modifier.PRIVATE)) {
                sayAt(m, m.getName() + " of the face's class is not private");
            } else if (!m.getName().toString().equals("<init>")) {
                privates.put(m.getName().toString(), method.getEnclosingElement().toString());
            }
            super.visitMethod(m, v);
            method = before;
            return null;
        }

        @Override public Void visitVariable(VariableTree t, Void v) {
            Element e = trees.getElement(getCurrentPath());
            if (e.getKind() == ElementKind.FIELD) {
                if (e.getModifiers().contains(Modifier.STATIC)) {
                    if (!e.getModifiers().contains(Modifier.FINAL) || ((VariableElement) e).getConstantValue() == null) {
                        sayAt(t, "a static field that is no constant: " + e);
                    }
                } else {
                    fields.merge(e.getEnclosingElement().toString(), 1, Integer::sum);
                    boolean outer = e.getEnclosingElement().getEnclosingElement().getKind() == ElementKind.PACKAGE;
                    if (outer && !e.getModifiers().contains(Modifier.PRIVATE)) {
                        sayAt(t, "a field of the face's class that is not private");
                    }
                }
            }
            return super.visitVariable(t, v);
        }

        private void used(Element called, Tree t) {
            if (called == null) {
                return;
            }
            String owner = called.getEnclosingElement().toString();
            if (owner.startsWith("ClassWorks")) {
                if (method != null) {
                    calls.get(method).add(called);
                }
            } else {
                String name = called.getEnclosingElement().getSimpleName() + "." + called.getSimpleName();
                if (!LIBRARY.contains(name) && !name.startsWith("Object.<init>")) {
                    sayAt(t, "library: " + name);
                }
            }
        }

        @Override public Void visitMethodInvocation(MethodInvocationTree t, Void v) {
            if (t.getMethodSelect().toString().equals("Arrays.fill")) {
                TypeMirror row = trees.getTypeMirror(new TreePath(getCurrentPath(), t.getArguments().get(0)));
                if (!row.toString().matches("(int|long|byte|short|char)\\[\\]")) {
                    sayAt(t, "Arrays.fill over " + row);
                }
            }
            if (!t.toString().startsWith("super(")) {
                used(trees.getElement(getCurrentPath()), t);
            }
            return super.visitMethodInvocation(t, v);
        }

        @Override public Void visitNewClass(NewClassTree t, Void v) {
            used(trees.getElement(getCurrentPath()), t);
            return super.visitNewClass(t, v);
        }

        @Override public Void visitBinary(BinaryTree t, Void v) {
            TypeMirror type = trees.getTypeMirror(getCurrentPath());
            if (t.getKind() == Tree.Kind.PLUS && type.toString().equals("java.lang.String")) {
                sayAt(t, "texts joined by +");
            }
            if (t.getKind() == Tree.Kind.DIVIDE || t.getKind() == Tree.Kind.REMAINDER) {
                boolean constant = t.getRightOperand().getKind() == Tree.Kind.INT_LITERAL
                    || t.getRightOperand().toString().matches("[A-Z_]+|unit|b");
                if (!constant) {
                    sayAt(t, "a divisor to look at: " + t);
                }
            }
            return super.visitBinary(t, v);
        }

        @Override public Void visitThrow(ThrowTree t, Void v) {
            sayAt(t, "throw");
            return super.visitThrow(t, v);
        }

        @Override public Void visitTry(TryTree t, Void v) {
            sayAt(t, "try");
            return super.visitTry(t, v);
        }

        @Override public Void visitLambdaExpression(LambdaExpressionTree t, Void v) {
            sayAt(t, "lambda");
            return super.visitLambdaExpression(t, v);
        }

        @Override public Void visitMemberReference(MemberReferenceTree t, Void v) {
            sayAt(t, "method reference");
            return super.visitMemberReference(t, v);
        }

        @Override public Void visitAssert(AssertTree t, Void v) {
            sayAt(t, "assert");
            return super.visitAssert(t, v);
        }

        @Override public Void visitSynchronized(SynchronizedTree t, Void v) {
            sayAt(t, "synchronized");
            return super.visitSynchronized(t, v);
        }
    }
}
