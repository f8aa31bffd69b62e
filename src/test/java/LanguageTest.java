import com.sun.source.tree.*;
import com.sun.source.util.JavacTask;
import com.sun.source.util.TreePath;
import com.sun.source.util.TreePathScanner;
import com.sun.source.util.Trees;
import java.nio.file.Files;
import java.nio.file.Path;
import java.util.ArrayList;
import java.util.HashMap;
import java.util.HashSet;
import java.util.List;
import java.util.Map;
import java.util.Set;
import java.util.TreeMap;
import java.util.TreeSet;
import javax.lang.model.element.Element;
import javax.lang.model.element.ElementKind;
import javax.lang.model.element.Modifier;
import javax.lang.model.element.TypeElement;
import javax.tools.JavaCompiler;
import javax.tools.StandardJavaFileManager;
import javax.tools.ToolProvider;

/** What of LANGUAGE.md can be seen in the text of the class: a name in a failure is of what stands outside a rule. */
public final class LanguageTest {
    private static final Path FILE = Path.of("src/main/java/SmallMakers.java");
    /** All that the class uses of the library; rule 4 allows more. */
    private static final Set<String> LIBRARY = Set.of("Integer.compare", "Integer.bitCount", "Math.min", "Math.max",
        "Math.abs", "Arrays.fill", "System.arraycopy");
    /** Nothing is caught, thrown, or written so that it would be a class that no one sees. */
    private static final Set<Tree.Kind> LEFT_OUT = Set.of(Tree.Kind.LAMBDA_EXPRESSION, Tree.Kind.MEMBER_REFERENCE,
        Tree.Kind.TRY, Tree.Kind.THROW, Tree.Kind.SYNCHRONIZED, Tree.Kind.ASSERT, Tree.Kind.SWITCH_EXPRESSION,
        Tree.Kind.YIELD, Tree.Kind.INSTANCE_OF, Tree.Kind.STRING_LITERAL, Tree.Kind.DOUBLE_LITERAL,
        Tree.Kind.FLOAT_LITERAL, Tree.Kind.ANNOTATION, Tree.Kind.TYPE_PARAMETER, Tree.Kind.PARAMETERIZED_TYPE);

    private static final Due due = new Due();
    private static Trees trees;
    private static CompilationUnitTree unit;

    public static void main(String[] args) throws Exception {
        due.about("LANGUAGE.md");
        JavaCompiler javac = ToolProvider.getSystemJavaCompiler();
        StandardJavaFileManager files = javac.getStandardFileManager(null, null, null);
        JavacTask task = (JavacTask) javac.getTask(null, files, null, List.of("-proc:none"), null, files.getJavaFileObjects(FILE));
        unit = task.parse().iterator().next();
        task.analyze();
        trees = Trees.instance(task);
        text();
        Scan scan = new Scan();
        scan.scan(unit, null);
        scan.classes();
        scan.methods();
        scan.calls();
        due.end();
    }

    private static void text() throws Exception {
        String all = Files.readString(FILE);
        due.holds(all.chars().allMatch(c -> c == '\n' || c >= ' ' && c <= 126), "3: signs 32 to 126 alone");
        due.holds(unit.getPackageName() == null, "1: no package");
        due.is(1, unit.getTypeDecls().size(), "1: one class in the file");
        due.holds(unit.getImports().stream().allMatch(i -> i.getQualifiedIdentifier().toString().equals("java.util.Arrays")),
            "4: no import but Arrays");
    }

    private static final class Scan extends TreePathScanner<Void, Void> {
        private final Map<Element, Set<Element>> calls = new HashMap<>();
        private final List<ClassTree> classes = new ArrayList<>();
        private final List<MethodTree> methods = new ArrayList<>();
        private final Set<String> face = new HashSet<>();
        private Element within;

        @Override
        public Void scan(Tree tree, Void v) {
            if (tree != null) due.holds(!LEFT_OUT.contains(tree.getKind()), "no " + tree.getKind() + ": " + tree);
            return super.scan(tree, v);
        }

        @Override
        public Void visitClass(ClassTree tree, Void v) {
            classes.add(tree);
            return super.visitClass(tree, v);
        }

        @Override
        public Void visitMethod(MethodTree tree, Void v) {
            methods.add(tree);
            within = trees.getElement(getCurrentPath());
            calls.put(within, new HashSet<>());
            if (within.getModifiers().contains(Modifier.PUBLIC)) face.add(tree.getName().toString());
            super.visitMethod(tree, v);
            within = null;
            return null;
        }

        @Override
        public Void visitMethodInvocation(MethodInvocationTree tree, Void v) {
            Element called = trees.getElement(new TreePath(getCurrentPath(), tree.getMethodSelect()));
            String owner = called.getEnclosingElement().getSimpleName().toString();
            boolean own = ((TypeElement) outermost(called)).getSimpleName().contentEquals("SmallMakers");
            boolean made = called.getKind() == ElementKind.CONSTRUCTOR;
            due.holds(own || made || LIBRARY.contains(owner + "." + called.getSimpleName()), "4: the library, in " + tree);
            if (own && within != null) calls.get(within).add(called);
            return super.visitMethodInvocation(tree, v);
        }

        @Override
        public Void visitNewClass(NewClassTree tree, Void v) {
            due.holds(within == null && tree.getClassBody() == null, "12: objects are made with the object alone: " + tree);
            return super.visitNewClass(tree, v);
        }

        @Override
        public Void visitNewArray(NewArrayTree tree, Void v) {
            due.holds(within == null, "12: rows are made with the object alone: " + tree);
            return super.visitNewArray(tree, v);
        }

        @Override
        public Void visitBinary(BinaryTree tree, Void v) {
            boolean divides = tree.getKind() == Tree.Kind.DIVIDE || tree.getKind() == Tree.Kind.REMAINDER;
            boolean plain = tree.getRightOperand().getKind() == Tree.Kind.INT_LITERAL;
            boolean tested = Set.of("commonDivisor", "oddsOf", "roundedUp").contains("" + (within == null ? "" : within.getSimpleName()));
            due.holds(!divides || plain || tested, "7: a divisor is looked at: " + tree);
            return super.visitBinary(tree, v);
        }

        private static Element outermost(Element e) {
            Element at = e;
            while (at.getEnclosingElement().getKind() != ElementKind.PACKAGE) at = at.getEnclosingElement();
            return at;
        }

        void classes() {
            due.holds(classes.size() <= 12, "11: some twelve classes, here " + classes.size());
            for (ClassTree c : classes) {
                int fields = 0;
                for (Tree member : c.getMembers()) {
                    due.holds(member.getKind() != Tree.Kind.BLOCK, "5: no block of " + c.getSimpleName());
                    if (member instanceof VariableTree f && !constant(f)) fields++;
                }
                due.holds(fields <= 20, "11: some twenty fields, of " + c.getSimpleName() + " " + fields);
                Set<Modifier> flags = c.getModifiers().getFlags();
                boolean outer = c.getSimpleName().contentEquals("SmallMakers");
                due.holds(outer || flags.containsAll(Set.of(Modifier.PRIVATE, Modifier.STATIC)), "1: private and static: " + c.getSimpleName());
                due.holds(!outer || flags.equals(Set.of(Modifier.PUBLIC, Modifier.FINAL)), "1: public and final");
            }
        }

        /** A static field: it has to be final, and a number. */
        private static boolean constant(VariableTree f) {
            Set<Modifier> flags = f.getModifiers().getFlags();
            if (!flags.contains(Modifier.STATIC)) return false;
            due.holds(flags.contains(Modifier.FINAL), "5: static and not final: " + f.getName());
            due.holds(f.getType() instanceof PrimitiveTypeTree, "5: a number: " + f.getName());
            return true;
        }

        void methods() {
            LineMap lines = unit.getLineMap();
            for (MethodTree m : methods) {
                String name = m.getName().toString();
                boolean ofFace = m.getModifiers().getFlags().contains(Modifier.PUBLIC);
                due.holds(ofFace || !face.contains(name) || name.equals("<init>"), "1: bears the name of a public one: " + name);
                due.holds(m.getParameters().size() <= 7, "11: at most seven parameters: " + name);
                long from = lines.getLineNumber(trees.getSourcePositions().getStartPosition(unit, m));
                long to = lines.getLineNumber(trees.getSourcePositions().getEndPosition(unit, m));
                due.holds(to - from < 60, "11: short methods: " + name);
            }
        }

        /** Rule 8 and 11: who calls itself has a depth among what it takes; the rest goes at most eight deep. */
        void calls() {
            Map<String, Integer> deepest = new TreeMap<>();
            Set<String> again = new TreeSet<>();
            for (Element e : calls.keySet()) deepest.put(e.toString(), deep(e, new HashSet<>(), again));
            for (Map.Entry<String, Integer> d : deepest.entrySet()) {
                due.holds(d.getValue() <= 8, "11: " + d.getKey() + " goes " + d.getValue() + " deep");
            }
            for (MethodTree m : methods) {
                boolean carries = m.getParameters().stream().anyMatch(p -> p.getName().contentEquals("depth"));
                due.holds(!again.contains(m.getName().toString()) || carries, "8: a depth is carried: " + m.getName());
            }
        }

        private int deep(Element e, Set<Element> open, Set<String> again) {
            open.add(e);
            int below = 0;
            for (Element called : calls.getOrDefault(e, Set.of())) {
                if (called.equals(e)) again.add(e.getSimpleName().toString());
                else if (open.contains(called)) due.holds(false, "8: call one another: " + e + ", " + called);
                else below = Math.max(below, deep(called, open, again));
            }
            open.remove(e);
            return 1 + below;
        }
    }
}
