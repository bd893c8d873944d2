import com.sun.source.tree.CompilationUnitTree;
import com.sun.source.tree.ExpressionTree;
import com.sun.source.tree.MethodInvocationTree;
import com.sun.source.tree.MethodTree;
import com.sun.source.tree.NewClassTree;
import com.sun.source.util.JavacTask;
import com.sun.source.util.TreePath;
import com.sun.source.util.TreePathScanner;
import com.sun.source.util.Trees;
import java.io.File;
import java.util.ArrayList;
import java.util.LinkedHashMap;
import java.util.LinkedHashSet;
import java.util.List;
import java.util.Map;
import java.util.Set;
import javax.lang.model.element.Element;
import javax.tools.JavaCompiler;
import javax.tools.StandardJavaFileManager;
import javax.tools.ToolProvider;

/** Who calls whom in the class, by its source: LANGUAGE.md's rules on the library, recursion and depth. */
final class CallTests {
    private static final String SOURCE = "src/main/java/WeighedLots.java";
    private static final int MOST_DEEP = 8;

    /** Of what rule 4 lists, what the class needs; another name here is looked up in LANGUAGE.md first. */
    private static final Set<String> LIBRARY = Set.of("java.lang.Integer.bitCount", "java.lang.Math.abs",
        "java.lang.Math.max", "java.lang.Math.min", "java.lang.System.arraycopy");

    private final Checks checks = new Checks("CallTests");
    private final Map<String, Set<String>> called = new LinkedHashMap<>();

    public static void main(String[] args) throws Exception {
        CallTests tests = new CallTests();
        tests.look();
        tests.depths();
        tests.checks.end();
    }

    private void look() throws Exception {
        JavaCompiler compiler = ToolProvider.getSystemJavaCompiler();
        try (StandardJavaFileManager files = compiler.getStandardFileManager(null, null, null)) {
            JavacTask task = (JavacTask) compiler.getTask(null, files, null, List.of("-proc:none"), null,
                files.getJavaFileObjects(new File(SOURCE)));
            Iterable<? extends CompilationUnitTree> units = task.parse();
            task.analyze();
            for (CompilationUnitTree unit : units) {
                new Look(Trees.instance(task)).scan(unit, null);
            }
        }
    }

    /** Whatever the arguments are: a call that only some other argument would lead to counts, too. */
    private void depths() {
        checks.holds("calls were found", called.size() > 1);
        for (String method : called.keySet()) {
            List<String> chain = longestFrom(method, new ArrayList<>());
            checks.holds("at most " + MOST_DEEP + " deep: " + chain, chain.size() <= MOST_DEEP);
        }
    }

    private List<String> longestFrom(String method, List<String> open) {
        if (open.contains(method)) {
            checks.holds("no recursion: " + open + ", " + method, false);
            return List.of(method);
        }
        open.add(method);
        List<String> longest = List.of();
        for (String next : called.getOrDefault(method, Set.of())) {
            List<String> chain = longestFrom(next, open);
            longest = chain.size() > longest.size() ? chain : longest;
        }
        open.remove(open.size() - 1);
        List<String> found = new ArrayList<>(List.of(method));
        found.addAll(longest);
        return found;
    }

    private final class Look extends TreePathScanner<Void, Void> {
        private final Trees trees;
        private String method = "fields";

        Look(Trees trees) {
            this.trees = trees;
        }

        @Override
        public Void visitMethod(MethodTree tree, Void nothing) {
            method = name(trees.getElement(getCurrentPath()));
            called.computeIfAbsent(method, k -> new LinkedHashSet<>());
            super.visitMethod(tree, nothing);
            method = "fields";
            return null;
        }

        @Override
        public Void visitMethodInvocation(MethodInvocationTree tree, Void nothing) {
            note(tree.getMethodSelect());
            return super.visitMethodInvocation(tree, nothing);
        }

        @Override
        public Void visitNewClass(NewClassTree tree, Void nothing) {
            Element maker = trees.getElement(getCurrentPath());
            checks.holds("an object of the class's own: " + tree, isOwn(maker));
            return super.visitNewClass(tree, nothing);
        }

        private void note(ExpressionTree select) {
            Element target = trees.getElement(new TreePath(getCurrentPath(), select));
            checks.holds("known: " + select, target != null);
            if (target == null || target.getSimpleName().contentEquals("<init>")) {
                return;
            }
            if (isOwn(target)) {
                called.computeIfAbsent(method, k -> new LinkedHashSet<>()).add(name(target));
            } else {
                checks.holds("the library has it: " + name(target), LIBRARY.contains(name(target)));
            }
        }

        private boolean isOwn(Element target) {
            return (target.getEnclosingElement() + ".").startsWith("WeighedLots.");
        }

        private String name(Element target) {
            return target.getEnclosingElement() + "." + target.getSimpleName();
        }
    }
}
