import com.sun.source.tree.BinaryTree;
import com.sun.source.tree.ClassTree;
import com.sun.source.tree.CompilationUnitTree;
import com.sun.source.tree.CompoundAssignmentTree;
import com.sun.source.tree.MethodInvocationTree;
import com.sun.source.tree.MethodTree;
import com.sun.source.tree.NewClassTree;
import com.sun.source.tree.Tree;
import com.sun.source.tree.TypeCastTree;
import com.sun.source.util.JavacTask;
import com.sun.source.util.TreePath;
import com.sun.source.util.TreePathScanner;
import com.sun.source.util.Trees;
import java.io.IOException;
import java.nio.charset.StandardCharsets;
import java.nio.file.Path;
import java.util.ArrayList;
import java.util.HashMap;
import java.util.HashSet;
import java.util.LinkedHashMap;
import java.util.List;
import java.util.Map;
import java.util.Set;
import javax.lang.model.element.Element;
import javax.lang.model.element.Modifier;
import javax.tools.JavaCompiler;
import javax.tools.StandardJavaFileManager;
import javax.tools.ToolProvider;

/**
 * The rules of LANGUAGE.md on calls, told by the compiler's own tree of the class: what is called of the library
 * (4), no casts among references and no texts joined by + (6, 10), which methods call themselves (8), and how deep
 * the others go (11).
 */
public final class CallsTest {
    private static final Due due = new Due();
    private static final Path SOURCE = Path.of("src", "main", "java", "OneGlove.java");
    private static final int DEEP = 8;
    private static final Set<String> LIBRARY = Set.of("String.length", "String.charAt", "String.isEmpty",
            "String.equals", "String.substring", "String.toCharArray", "Math.max", "Math.min", "Math.abs",
            "Math.floorDiv", "Math.floorMod", "Integer.bitCount", "Integer.compare", "Long.compare",
            "System.arraycopy", "Arrays.copyOf", "Arrays.copyOfRange", "Arrays.fill");
    private static final Map<Element, Set<Element>> calls = new LinkedHashMap<>();

    private CallsTest() {
    }

    public static void main(String[] args) throws IOException {
        JavaCompiler compiler = ToolProvider.getSystemJavaCompiler();
        try (StandardJavaFileManager files =
                compiler.getStandardFileManager(null, null, StandardCharsets.US_ASCII)) {
            JavacTask task = (JavacTask) compiler.getTask(null, files, null, List.of("-proc:none"), null,
                    files.getJavaFileObjects(SOURCE));
            Iterable<? extends CompilationUnitTree> units = task.parse();
            task.analyze();
            Scan scan = new Scan(Trees.instance(task));
            for (CompilationUnitTree unit : units) {
                scan.scan(unit, null);
            }
        }
        due.holds("the tree was read", calls.size() > 60);
        recursion();
        depth();
        due.end("CallsTest");
    }

    /** Goes through the tree once; calls of own methods are kept, all else is held against the rules. */
    private static final class Scan extends TreePathScanner<Void, Void> {
        private final Trees trees;
        private Element method;

        Scan(Trees trees) {
            this.trees = trees;
        }

        private Element element(Tree tree) {
            return trees.getElement(new TreePath(getCurrentPath(), tree));
        }

        private String type(Tree tree) {
            return trees.getTypeMirror(new TreePath(getCurrentPath(), tree)).toString();
        }

        @Override
        public Void visitMethod(MethodTree tree, Void none) {
            method = trees.getElement(getCurrentPath());
            calls.putIfAbsent(method, new HashSet<>());
            return super.visitMethod(tree, none);
        }

        @Override
        public Void visitClass(ClassTree tree, Void none) {
            method = null;
            return super.visitClass(tree, none);
        }

        @Override
        public Void visitMethodInvocation(MethodInvocationTree tree, Void none) {
            called(element(tree.getMethodSelect()));
            return super.visitMethodInvocation(tree, none);
        }

        @Override
        public Void visitNewClass(NewClassTree tree, Void none) {
            called(trees.getElement(getCurrentPath()));
            return super.visitNewClass(tree, none);
        }

        private void called(Element callee) {
            Element type = callee.getEnclosingElement();
            String name = type.getSimpleName() + "." + callee.getSimpleName();
            if (isOwn(type)) {
                if (method != null) {
                    calls.get(method).add(callee);
                }
            } else if (!name.equals("Object.<init>")) {
                due.holds(name + " stands in rule 4", LIBRARY.contains(name));
            }
        }

        private boolean isOwn(Element type) {
            return type.toString().equals("OneGlove") || type.toString().startsWith("OneGlove.");
        }

        @Override
        public Void visitTypeCast(TypeCastTree tree, Void none) {
            due.holds("a cast among numbers: " + tree, Set.of("int", "long", "short", "byte", "char").contains(
                    type(tree.getType())));
            return super.visitTypeCast(tree, none);
        }

        @Override
        public Void visitBinary(BinaryTree tree, Void none) {
            boolean texts = type(tree.getLeftOperand()).equals("java.lang.String")
                    || type(tree.getRightOperand()).equals("java.lang.String");
            due.holds("no texts joined or compared: " + tree, !texts);
            boolean divides = tree.getKind() == Tree.Kind.DIVIDE || tree.getKind() == Tree.Kind.REMAINDER;
            due.holds("divides by what is never 0: " + tree, !divides || isNeverNought(tree));
            return super.visitBinary(tree, none);
        }

        /** Constants, and the two divisors that are tested ahead of it. */
        private boolean isNeverNought(BinaryTree tree) {
            String divisor = tree.getRightOperand().toString();
            return divisor.matches("[1-9][0-9]*|SIDES") || divisor.equals("divisor") || divisor.equals("rest");
        }

        @Override
        public Void visitCompoundAssignment(CompoundAssignmentTree tree, Void none) {
            due.holds("changes a number: " + tree, Set.of("int", "long").contains(type(tree.getVariable())));
            due.holds("never divides: " + tree, tree.getKind() != Tree.Kind.DIVIDE_ASSIGNMENT
                    && tree.getKind() != Tree.Kind.REMAINDER_ASSIGNMENT);
            return super.visitCompoundAssignment(tree, none);
        }
    }

    private static void recursion() {
        for (Element method : calls.keySet()) {
            if (reached(method).contains(method)) {
                due.holds(method + " calls itself, so it is private", method.getModifiers().contains(Modifier.PRIVATE));
                due.holds(method + " calls itself, so it carries its depth", method.toString().endsWith(",int)"));
            }
        }
    }

    /** What a method calls, and what that calls. */
    private static Set<Element> reached(Element method) {
        Set<Element> reached = new HashSet<>();
        List<Element> open = new ArrayList<>(calls.getOrDefault(method, Set.of()));
        while (!open.isEmpty()) {
            Element next = open.remove(open.size() - 1);
            if (reached.add(next)) {
                open.addAll(calls.getOrDefault(next, Set.of()));
            }
        }
        return reached;
    }

    private static void depth() {
        Map<Element, Integer> known = new HashMap<>();
        for (Element method : calls.keySet()) {
            int deep = deep(method, known);
            due.holds(method + " goes " + deep + " deep", deep <= DEEP);
        }
    }

    /** Methods that call one another are one level. */
    private static int deep(Element method, Map<Element, Integer> known) {
        if (known.containsKey(method)) {
            return known.get(method);
        }
        Set<Element> level = new HashSet<>(Set.of(method));
        for (Element other : reached(method)) {
            if (reached(other).contains(method)) {
                level.add(other);
            }
        }
        int deepest = 0;
        for (Element one : level) {
            for (Element callee : calls.getOrDefault(one, Set.of())) {
                if (!level.contains(callee)) {
                    deepest = Math.max(deepest, deep(callee, known));
                }
            }
        }
        known.put(method, deepest + 1);
        return deepest + 1;
    }
}
