import com.sun.source.tree.ArrayAccessTree;
import com.sun.source.tree.BinaryTree;
import com.sun.source.tree.BlockTree;
import com.sun.source.tree.ClassTree;
import com.sun.source.tree.CompilationUnitTree;
import com.sun.source.tree.CompoundAssignmentTree;
import com.sun.source.tree.DoWhileLoopTree;
import com.sun.source.tree.EnhancedForLoopTree;
import com.sun.source.tree.ExpressionStatementTree;
import com.sun.source.tree.ExpressionTree;
import com.sun.source.tree.ForLoopTree;
import com.sun.source.tree.IfTree;
import com.sun.source.tree.LiteralTree;
import com.sun.source.tree.MethodInvocationTree;
import com.sun.source.tree.MethodTree;
import com.sun.source.tree.NewArrayTree;
import com.sun.source.tree.NewClassTree;
import com.sun.source.tree.ParenthesizedTree;
import com.sun.source.tree.PrimitiveTypeTree;
import com.sun.source.tree.StatementTree;
import com.sun.source.tree.Tree;
import com.sun.source.tree.TypeCastTree;
import com.sun.source.tree.UnaryTree;
import com.sun.source.tree.VariableTree;
import com.sun.source.tree.WhileLoopTree;
import com.sun.source.util.JavacTask;
import com.sun.source.util.TreePathScanner;
import com.sun.source.util.TreeScanner;
import com.sun.source.util.Trees;
import java.io.IOException;
import java.nio.file.Path;
import java.util.ArrayList;
import java.util.List;
import java.util.Map;
import java.util.TreeMap;
import java.util.TreeSet;
import javax.lang.model.element.Element;
import javax.lang.model.element.Modifier;
import javax.tools.JavaCompiler;
import javax.tools.StandardJavaFileManager;
import javax.tools.ToolProvider;

/** Rules 7, 8, 9 and 11 of ../shared/LANGUAGE.md, as far as the tree tells that javac makes of the source. */
public final class SourceTreeTest {
    private static final Path SOURCE = Path.of("src", "main", "java", "BellfounderTower.java");
    private static final int DEEPEST = 8;
    /** So that only what leaves the method goes on. */
    private static final String NO_COUNTER = " ";

    /** What each method calls, by "Class.method"; a class's initialisers belong to its constructors. */
    private static final Map<String, TreeSet<String>> CALLED = new TreeMap<>();
    private static final Map<String, MethodTree> METHODS = new TreeMap<>();
    private static final List<Place> PLACES = new ArrayList<>();

    /** A part of the source that a rule speaks of, with the text of the method around it. */
    private record Place(Tree tree, String around) {
    }

    public static void main(String[] args) throws IOException {
        read();
        Check.sentence("7: an index is looked at before it is used", SourceTreeTest::indices);
        Check.sentence("7: a divisor before it divides", SourceTreeTest::divisors);
        Check.sentence("7: a length for a new array is looked at", SourceTreeTest::newArrays);
        Check.sentence("7: a reference against null before it is used (none can be null)", SourceTreeTest::references);
        Check.sentence("6: a cast only behind the test that makes it safe (casts of numbers)", SourceTreeTest::casts);
        Check.sentence("8: a guard on the depth", SourceTreeTest::recursion);
        Check.sentence("9: Every loop has an end that can be seen", SourceTreeTest::loops);
        Check.sentence("11: calls that are no recursion go at most eight deep", SourceTreeTest::depth);
        Check.end("SourceTreeTest");
    }

    private static void read() throws IOException {
        JavaCompiler compiler = ToolProvider.getSystemJavaCompiler();
        try (StandardJavaFileManager files = compiler.getStandardFileManager(null, null, null)) {
            JavacTask task = (JavacTask) compiler.getTask(
                    null, files, null, List.of("-proc:none"), null, files.getJavaFileObjects(SOURCE));
            Iterable<? extends CompilationUnitTree> units = task.parse();
            task.analyze();
            new Reader(Trees.instance(task)).scan(units, null);
        }
    }

    private static final class Reader extends TreePathScanner<Void, Void> {
        private final Trees trees;
        private String type = "";
        private String method = "";
        private String text = "";

        Reader(Trees trees) {
            this.trees = trees;
        }

        @Override
        public Void visitClass(ClassTree tree, Void nothing) {
            String typeAround = type;
            type = tree.getSimpleName().toString();
            method = type + ".<init>";
            text = "";
            super.visitClass(tree, nothing);
            type = typeAround;
            return null;
        }

        @Override
        public Void visitMethod(MethodTree tree, Void nothing) {
            method = type + "." + tree.getName();
            text = tree.toString();
            METHODS.put(method, tree);
            super.visitMethod(tree, nothing);
            method = type + ".<init>";
            text = "";
            return null;
        }

        @Override
        public Void visitMethodInvocation(MethodInvocationTree tree, Void nothing) {
            noteCall();
            return super.visitMethodInvocation(tree, nothing);
        }

        @Override
        public Void visitNewClass(NewClassTree tree, Void nothing) {
            noteCall();
            return super.visitNewClass(tree, nothing);
        }

        private void noteCall() {
            Element called = trees.getElement(getCurrentPath());
            String name = called.getEnclosingElement().getSimpleName() + "." + called.getSimpleName();
            CALLED.computeIfAbsent(method, key -> new TreeSet<>()).add(name);
        }

        @Override
        public Void scan(Tree tree, Void nothing) {
            if (tree != null) {
                PLACES.add(new Place(tree, text));
            }
            return super.scan(tree, nothing);
        }
    }

    private static <T extends Tree> List<T> all(Class<T> kind) {
        List<T> found = new ArrayList<>();
        for (Place place : PLACES) {
            if (kind.isInstance(place.tree())) {
                found.add(kind.cast(place.tree()));
            }
        }
        return found;
    }

    private static void holds(Tree tree, boolean isSo) {
        Check.is(tree.toString().trim(), isSo, true);
    }

    private static void indices() {
        for (Place place : PLACES) {
            if (place.tree() instanceof ArrayAccessTree access) {
                String index = access.getIndex().toString();
                holds(access, place.around().contains(index + " >= 0 && ")
                        && place.around().contains(index + " < " + access.getExpression() + ".length"));
            }
        }
    }

    private static void divisors() {
        for (Place place : PLACES) {
            ExpressionTree divisor = divisorOf(place.tree());
            if (divisor instanceof LiteralTree literal) {
                holds(place.tree(), literal.getValue() instanceof Integer by && by != 0);
            } else if (divisor != null) {
                holds(place.tree(), place.around().contains(divisor + " > 0 ? "));
            }
        }
    }

    private static ExpressionTree divisorOf(Tree tree) {
        switch (tree.getKind()) {
            case DIVIDE:
            case REMAINDER:
                return ((BinaryTree) tree).getRightOperand();
            case DIVIDE_ASSIGNMENT:
            case REMAINDER_ASSIGNMENT:
                return ((CompoundAssignmentTree) tree).getExpression();
            default:
                return null;
        }
    }

    private static void newArrays() {
        for (NewArrayTree made : all(NewArrayTree.class)) {
            for (ExpressionTree length : made.getDimensions()) {
                holds(made, length.toString().matches("[A-Z_]+|Math\\.max\\(\\w+, 0\\)"));
            }
        }
    }

    private static void references() {
        for (Place place : PLACES) {
            if (place.tree().getKind() == Tree.Kind.NULL_LITERAL) {
                Check.is("null in " + place.around(), true, false);
            }
            if (place.tree() instanceof VariableTree variable && !(variable.getType() instanceof PrimitiveTypeTree)) {
                boolean isField = place.around().isEmpty();
                holds(variable, !isField || variable.getModifiers().getFlags().contains(Modifier.FINAL));
            }
        }
    }

    private static void casts() {
        for (TypeCastTree cast : all(TypeCastTree.class)) {
            holds(cast, cast.getType() instanceof PrimitiveTypeTree);
        }
    }

    /** A method that calls itself is private and static, and begins with what ends it beyond a depth. */
    private static void recursion() {
        for (Map.Entry<String, TreeSet<String>> entry : CALLED.entrySet()) {
            if (entry.getValue().contains(entry.getKey())) {
                MethodTree method = METHODS.get(entry.getKey());
                Check.is(entry.getKey() + " is private and static", method.getModifiers().getFlags().containsAll(
                        List.of(Modifier.PRIVATE, Modifier.STATIC)), true);
                StatementTree first = method.getBody().getStatements().get(0);
                String depth = method.getParameters().get(method.getParameters().size() - 1).getName().toString();
                String beyond = "\\(" + depth + " < 1 \\|\\| " + depth + " > [A-Z_]+\\)";
                holds(method, first instanceof IfTree guard && goesOn(guard.getThenStatement(), NO_COUNTER)
                        && guard.getCondition().toString().matches(beyond));
                holds(method, method.toString().contains(depth + " - 1)"));
            }
        }
    }

    private static void loops() {
        for (ForLoopTree loop : all(ForLoopTree.class)) {
            VariableTree counter = (VariableTree) loop.getInitializer().get(0);
            String step = loop.getUpdate().get(0).toString();
            boolean goesDown = step.equals(counter.getName() + "--;");
            boolean isBounded = isBound(loop.getCondition(), counter.getName().toString(), goesDown);
            holds(loop, isBounded && loop.getUpdate().size() == 1
                    && (goesDown || step.equals(counter.getName() + "++;"))
                    && !isSet(loop.getStatement(), counter.getName().toString())
                    && !isSet(loop.getStatement(), boundOf(loop.getCondition())));
        }
        for (WhileLoopTree loop : all(WhileLoopTree.class)) {
            holds(loop, hasCounter(loop, plain(loop.getCondition())));
        }
        Check.is("other loops", all(DoWhileLoopTree.class).size() + all(EnhancedForLoopTree.class).size(), 0);
    }

    private static ExpressionTree plain(ExpressionTree expression) {
        return expression instanceof ParenthesizedTree inner ? inner.getExpression() : expression;
    }

    /** Whether some part of the condition, all of which must hold, holds a counter below what stays. */
    private static boolean hasCounter(WhileLoopTree loop, ExpressionTree condition) {
        if (condition.getKind() == Tree.Kind.CONDITIONAL_AND) {
            BinaryTree both = (BinaryTree) condition;
            return hasCounter(loop, both.getLeftOperand()) || hasCounter(loop, both.getRightOperand());
        }
        if (!(condition instanceof BinaryTree compared)) {
            return false;
        }
        String counter = compared.getLeftOperand().toString();
        return isBound(condition, counter, false) && goesOn(loop.getStatement(), counter)
                && !isSetBack(loop.getStatement(), counter) && !isSet(loop.getStatement(), boundOf(condition));
    }

    private static boolean isBound(ExpressionTree condition, String counter, boolean goesDown) {
        String signs = goesDown ? ">=?" : "<=?";
        return condition.toString().matches(counter + " " + signs + " .*");
    }

    private static String boundOf(ExpressionTree condition) {
        return ((BinaryTree) condition).getRightOperand().toString();
    }

    /** Whether each way through a statement counts on, or leaves the method. */
    private static boolean goesOn(StatementTree statement, String counter) {
        if (statement instanceof BlockTree block) {
            return block.getStatements().stream().anyMatch(inner -> goesOn(inner, counter));
        }
        if (statement instanceof IfTree either) {
            return either.getElseStatement() != null && goesOn(either.getThenStatement(), counter)
                    && goesOn(either.getElseStatement(), counter);
        }
        if (statement instanceof ExpressionStatementTree step) {
            return step.toString().matches(counter + "(\\+\\+| \\+= [1-9]);");
        }
        return statement.getKind() == Tree.Kind.RETURN;
    }

    private static boolean isSet(StatementTree body, String name) {
        return contains(body, name + "( [-+*/%&|^<>]*= .*|\\+\\+|--)") || contains(body, "(\\+\\+|--)" + name);
    }

    private static boolean isSetBack(StatementTree body, String name) {
        return contains(body, name + "( [-*/%&|^<>]*= .*|--)") || contains(body, "--" + name);
    }

    private static boolean contains(StatementTree body, String pattern) {
        List<Tree> found = new ArrayList<>();
        new TreeScanner<Void, Void>() {
            @Override
            public Void scan(Tree tree, Void nothing) {
                boolean isStep = tree instanceof UnaryTree || tree instanceof CompoundAssignmentTree
                        || tree != null && tree.getKind() == Tree.Kind.ASSIGNMENT;
                if (isStep && tree.toString().matches(pattern)) {
                    found.add(tree);
                }
                return super.scan(tree, nothing);
            }
        }.scan(body, null);
        return !found.isEmpty();
    }

    private static void depth() {
        for (String method : METHODS.keySet()) {
            List<String> deepest = deepestFrom(method, new ArrayList<>());
            Check.is(deepest + " is not too deep", deepest.size() <= DEEPEST, true);
        }
    }

    private static List<String> deepestFrom(String method, List<String> above) {
        Check.is(method + " is not called again within " + above, above.contains(method), false);
        List<String> deepest = new ArrayList<>();
        List<String> path = new ArrayList<>(above);
        path.add(method);
        for (String called : CALLED.getOrDefault(method, new TreeSet<>())) {
            if (!called.equals(method) && !above.contains(method)) {
                List<String> below = deepestFrom(called, path);
                deepest = below.size() > deepest.size() ? below : deepest;
            }
        }
        deepest.add(0, method);
        return deepest;
    }
}
