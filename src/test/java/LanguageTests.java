import com.sun.source.tree.ClassTree;
import com.sun.source.tree.CompilationUnitTree;
import com.sun.source.tree.LineMap;
import com.sun.source.tree.MethodTree;
import com.sun.source.tree.NewArrayTree;
import com.sun.source.tree.NewClassTree;
import com.sun.source.tree.Tree;
import com.sun.source.tree.VariableTree;
import com.sun.source.util.JavacTask;
import com.sun.source.util.TreeScanner;
import com.sun.source.util.Trees;
import java.io.File;
import java.lang.reflect.Constructor;
import java.lang.reflect.Field;
import java.lang.reflect.Method;
import java.lang.reflect.Modifier;
import java.util.List;
import java.util.Set;
import java.util.TreeSet;
import javax.tools.JavaCompiler;
import javax.tools.StandardJavaFileManager;
import javax.tools.ToolProvider;

/** The class keeps to LANGUAGE.md, as far as a look at its source and its members tells. */
final class LanguageTests {
    private static final String SOURCE = "src/main/java/WeighedLots.java";
    private static final Set<String> FACE = Set.of("int voters(int)", "int say(int,int)", "int code(int)",
        "int weight(int,int)", "int quota(int)", "int weigh()", "int becomes(int)", "int turn(int)",
        "int exchange(int,int)", "int keep()", "int feed(int)", "int read()", "int of(int,int)", "int told(int)",
        "int weightOf(int,int)", "int least()", "int chow(int)", "int trade(int)", "int leastLot(int)",
        "int swings(int)", "int see(int,int)", "int fits(int)", "long odds(int,int)", "long mean(int)",
        "int event(int,int)", "int after(int)", "int book(int,int)", "int looked()", "int judge(int,int)",
        "int image()", "int undo()", "int count(int)", "int tape(int,int,int)", "int item(int,int,long)",
        "long peek(int,int)", "int shift(int,int,int,int,int)");
    private static final Set<String> CONSTANTS = Set.of("int NONE", "int BAD", "int STATE", "int FULL", "long NO");
    private static final Set<Tree.Kind> FORBIDDEN = Set.of(Tree.Kind.THROW, Tree.Kind.TRY, Tree.Kind.CATCH,
        Tree.Kind.SYNCHRONIZED, Tree.Kind.ASSERT, Tree.Kind.LAMBDA_EXPRESSION, Tree.Kind.MEMBER_REFERENCE,
        Tree.Kind.PACKAGE, Tree.Kind.IMPORT, Tree.Kind.SWITCH_EXPRESSION, Tree.Kind.ANNOTATION);

    private final Checks checks = new Checks("LanguageTests");
    private final Set<String> publicNames = new TreeSet<>();

    public static void main(String[] args) throws Exception {
        LanguageTests tests = new LanguageTests();
        tests.face();
        tests.insideClasses();
        tests.source();
        tests.checks.end();
    }

    private void face() {
        Class<?> type = WeighedLots.class;
        checks.holds("public and final", Modifier.isPublic(type.getModifiers()) && Modifier.isFinal(type.getModifiers()));
        Set<String> shown = new TreeSet<>();
        for (Method m : type.getDeclaredMethods()) {
            if (Modifier.isPrivate(m.getModifiers())) {
                continue;
            }
            checks.holds(m + " is public and not static", (m.getModifiers() & ~Modifier.PUBLIC) == 0);
            shown.add(signature(m));
            publicNames.add(m.getName());
        }
        checks.holds("methods of the face: " + shown, shown.equals(FACE));
        Set<String> constants = new TreeSet<>();
        for (Field f : type.getDeclaredFields()) {
            if (!Modifier.isPrivate(f.getModifiers())) {
                constants.add(f.getType().getName() + " " + f.getName());
            }
        }
        checks.holds("constants of the face: " + constants, constants.equals(CONSTANTS));
        Constructor<?>[] makers = type.getDeclaredConstructors();
        checks.due("constructors", makers.length, 1);
        checks.due("the constructor's parameters", makers[0].getParameterCount(), 0);
        checks.due("the constructor's modifiers", makers[0].getModifiers(), Modifier.PUBLIC);
    }

    private static String signature(Method m) {
        StringBuilder text = new StringBuilder(m.getReturnType().getName() + " " + m.getName() + "(");
        for (Class<?> p : m.getParameterTypes()) {
            text.append(text.charAt(text.length() - 1) == '(' ? "" : ",").append(p.getName());
        }
        return text.append(")").toString();
    }

    private void insideClasses() {
        Class<?>[] inside = WeighedLots.class.getDeclaredClasses();
        checks.holds("at most twelve classes", inside.length + 1 <= 12);
        for (Class<?> type : inside) {
            int shown = type.getModifiers();
            checks.holds(type + " is static", Modifier.isStatic(shown));
            checks.holds(type + " is not shown", !Modifier.isPublic(shown) && !Modifier.isProtected(shown));
            checks.due(type + " has classes inside", type.getDeclaredClasses().length, 0);
            members(type);
        }
        members(WeighedLots.class);
    }

    private void members(Class<?> type) {
        int own = 0;
        for (Field f : type.getDeclaredFields()) {
            boolean isStatic = Modifier.isStatic(f.getModifiers());
            checks.holds(f + " is final if it is static", !isStatic || Modifier.isFinal(f.getModifiers()));
            own += isStatic ? 0 : 1;
        }
        checks.holds(type + " has at most twenty fields", own <= 20);
        for (Method m : type.getDeclaredMethods()) {
            boolean isFace = type == WeighedLots.class && Modifier.isPublic(m.getModifiers());
            checks.holds(m + " bears no public name", isFace || !publicNames.contains(m.getName()));
            checks.holds(m + " has at most seven parameters", m.getParameterCount() <= 7);
        }
    }

    private void source() throws Exception {
        JavaCompiler compiler = ToolProvider.getSystemJavaCompiler();
        try (StandardJavaFileManager files = compiler.getStandardFileManager(null, null, null)) {
            JavacTask task = (JavacTask) compiler.getTask(null, files, null, null, null,
                files.getJavaFileObjects(new File(SOURCE)));
            for (CompilationUnitTree unit : task.parse()) {
                checks.holds("no imports", unit.getImports().isEmpty() && unit.getPackage() == null);
                checks.due("classes of the file", unit.getTypeDecls().size(), 1);
                new Look(unit, Trees.instance(task)).scan(unit, null);
            }
        }
    }

    /** Besides what is forbidden: objects and rows are made in constructors alone, so that no call fills the room. */
    private final class Look extends TreeScanner<Void, Void> {
        private final CompilationUnitTree unit;
        private final Trees trees;
        private String method = "";

        Look(CompilationUnitTree unit, Trees trees) {
            this.unit = unit;
            this.trees = trees;
        }

        @Override
        public Void scan(Tree tree, Void nothing) {
            if (tree != null) {
                checks.holds("line " + line(tree) + " has " + tree.getKind(), !FORBIDDEN.contains(tree.getKind()));
            }
            return super.scan(tree, nothing);
        }

        @Override
        public Void visitMethod(MethodTree tree, Void nothing) {
            method = tree.getName().toString();
            LineMap lines = unit.getLineMap();
            long end = lines.getLineNumber(trees.getSourcePositions().getEndPosition(unit, tree));
            checks.holds(method + " is short", end - line(tree) < 60);
            super.visitMethod(tree, nothing);
            method = "";
            return null;
        }

        @Override
        public Void visitNewClass(NewClassTree tree, Void nothing) {
            checks.holds("line " + line(tree) + " makes an object in a call", method.isEmpty() || method.equals("<init>"));
            checks.holds("line " + line(tree) + " has a class without name", tree.getClassBody() == null);
            return super.visitNewClass(tree, nothing);
        }

        @Override
        public Void visitNewArray(NewArrayTree tree, Void nothing) {
            checks.holds("line " + line(tree) + " makes a row in a call", method.isEmpty() || method.equals("<init>"));
            return super.visitNewArray(tree, nothing);
        }

        @Override
        public Void visitVariable(VariableTree tree, Void nothing) {
            String type = String.valueOf(tree.getType());
            List<String> libraries = List.of("Object", "Map", "Set", "Iterator");
            checks.holds("line " + line(tree) + " has type " + type, !libraries.contains(type));
            return super.visitVariable(tree, nothing);
        }

        @Override
        public Void visitClass(ClassTree tree, Void nothing) {
            checks.holds("line " + line(tree) + ": a class in a method", method.isEmpty());
            return super.visitClass(tree, nothing);
        }

        private long line(Tree tree) {
            long start = trees.getSourcePositions().getStartPosition(unit, tree);
            return start < 0 ? 0 : unit.getLineMap().getLineNumber(start);
        }
    }
}
