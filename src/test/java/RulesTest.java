import com.sun.source.tree.ClassTree;
import com.sun.source.tree.CompilationUnitTree;
import com.sun.source.tree.DoWhileLoopTree;
import com.sun.source.tree.EnhancedForLoopTree;
import com.sun.source.tree.ForLoopTree;
import com.sun.source.tree.MethodInvocationTree;
import com.sun.source.tree.MethodTree;
import com.sun.source.tree.NewArrayTree;
import com.sun.source.tree.NewClassTree;
import com.sun.source.tree.Tree;
import com.sun.source.tree.VariableTree;
import com.sun.source.tree.WhileLoopTree;
import com.sun.source.util.JavacTask;
import com.sun.source.util.TreePathScanner;
import com.sun.source.util.Trees;
import java.io.IOException;
import java.nio.file.Path;
import java.util.ArrayList;
import java.util.HashMap;
import java.util.List;
import java.util.Map;
import java.util.Set;
import java.util.TreeMap;
import java.util.TreeSet;
import javax.lang.model.element.Element;
import javax.lang.model.element.Modifier;
import javax.tools.JavaCompiler;
import javax.tools.StandardJavaFileManager;
import javax.tools.ToolProvider;

/** The rules of LANGUAGE.md that need the compiler's own reading: who calls whom, what is made where. */
public final class RulesTest {
    private static final Path SOURCE = Path.of("src", "main", "java", "ThirdFavour.java");
    private static final Set<String> LIBRARY = Set.of("java.util.Arrays.fill", "java.lang.System.arraycopy",
        "java.lang.Math.max", "java.lang.Math.min", "java.lang.Integer.bitCount", "java.lang.Object.<init>");
    private static final int DEEPEST = 8, MOST_CLASSES = 12, MOST_FIELDS = 20, MOST_PARAMETERS = 7;

    private final Check check = new Check("rules");
    private final Map<String, Set<String>> calls = new TreeMap<>();
    private final Map<String, Integer> depths = new HashMap<>();
    private final Map<String, Integer> fields = new TreeMap<>();
    private int loops = 0;

    public static void main(String[] args) throws IOException {
        new RulesTest().runAll();
    }

    private void runAll() throws IOException {
        JavaCompiler javac = ToolProvider.getSystemJavaCompiler();
        check.holds("a compiler is there", javac != null);
        if (javac != null) {
            readSource(javac);
            callsAreShallow();
            check.holds("calls were found", calls.size() > 100);
            check.holds("loops were found", loops > 20);
            check.holds(fields.size() + " classes", fields.size() <= MOST_CLASSES);
            fields.forEach((name, n) -> check.holds(name + " has " + n + " fields", n <= MOST_FIELDS));
        }
        check.end();
    }

    private void readSource(JavaCompiler javac) throws IOException {
        try (StandardJavaFileManager files = javac.getStandardFileManager(null, null, null)) {
            List<String> options = List.of("-proc:none");
            JavacTask task = (JavacTask) javac.getTask(null, files, null, options, null, files.getJavaFileObjects(SOURCE));
            Iterable<? extends CompilationUnitTree> units = task.parse();
            task.analyze();
            Reader reader = new Reader(Trees.instance(task));
            for (CompilationUnitTree unit : units) {
                reader.scan(unit, null);
            }
        }
    }

    /** Rules 8 and 11: no recursion, and calls go at most eight deep. */
    private void callsAreShallow() {
        for (String method : calls.keySet()) {
            int depth = depthOf(method, new ArrayList<>());
            check.holds(method + " goes " + depth + " deep", depth <= DEEPEST);
        }
    }

    private int depthOf(String method, List<String> open) {
        if (open.contains(method)) {
            check.holds("no recursion: " + open + ", " + method, false);
            return DEEPEST + 1;
        }
        if (depths.containsKey(method)) {
            return depths.get(method);
        }
        open.add(method);
        int deepest = 0;
        for (String called : calls.getOrDefault(method, Set.of())) {
            deepest = Math.max(deepest, depthOf(called, open));
        }
        open.remove(open.size() - 1);
        depths.put(method, deepest + 1);
        return deepest + 1;
    }

    private final class Reader extends TreePathScanner<Void, Void> {
        private final Trees trees;
        private String inside = "";

        Reader(Trees trees) {
            this.trees = trees;
        }

        @Override public Void visitClass(ClassTree node, Void none) {
            String was = inside;
            String name = trees.getElement(getCurrentPath()).toString();
            inside = name + ".<init>";
            fields.put(name, 0);
            for (Tree member : node.getMembers()) {
                if (member instanceof VariableTree field && !field.getModifiers().getFlags().contains(Modifier.STATIC)) {
                    fields.merge(name, 1, Integer::sum);
                }
            }
            super.visitClass(node, none);
            inside = was;
            return null;
        }

        @Override public Void visitMethod(MethodTree node, Void none) {
            String was = inside;
            Element method = trees.getElement(getCurrentPath());
            inside = method.getEnclosingElement() + "." + method.getSimpleName();
            calls.computeIfAbsent(inside, key -> new TreeSet<>());
            check.holds(inside + " has few parameters", node.getParameters().size() <= MOST_PARAMETERS);
            super.visitMethod(node, none);
            inside = was;
            return null;
        }

        @Override public Void visitMethodInvocation(MethodInvocationTree node, Void none) {
            called(trees.getElement(getCurrentPath()));
            return super.visitMethodInvocation(node, none);
        }

        @Override public Void visitNewClass(NewClassTree node, Void none) {
            madeInConstructor("an object");
            called(trees.getElement(getCurrentPath()));
            return super.visitNewClass(node, none);
        }

        @Override public Void visitNewArray(NewArrayTree node, Void none) {
            madeInConstructor("an array");
            return super.visitNewArray(node, none);
        }

        @Override public Void visitForLoop(ForLoopTree node, Void none) {
            loops++;
            check.holds("a loop in " + inside + " has a condition", node.getCondition() != null);
            return super.visitForLoop(node, none);
        }

        @Override public Void visitEnhancedForLoop(EnhancedForLoopTree node, Void none) {
            loops++;
            return super.visitEnhancedForLoop(node, none);
        }

        @Override public Void visitWhileLoop(WhileLoopTree node, Void none) {
            check.holds("a counter bounds the loop in " + inside, false);
            return super.visitWhileLoop(node, none);
        }

        @Override public Void visitDoWhileLoop(DoWhileLoopTree node, Void none) {
            check.holds("a counter bounds the loop in " + inside, false);
            return super.visitDoWhileLoop(node, none);
        }

        /** All calls of a run share one room, so that no call makes anything. */
        private void madeInConstructor(String what) {
            check.holds(inside + " makes " + what + " in a constructor", inside.endsWith(".<init>"));
        }

        private void called(Element method) {
            String name = method.getEnclosingElement() + "." + method.getSimpleName();
            if (name.startsWith("ThirdFavour")) {
                calls.computeIfAbsent(inside, key -> new TreeSet<>()).add(name);
            } else {
                check.holds(inside + " calls " + name + ", which is listed", LIBRARY.contains(name));
            }
        }
    }
}
