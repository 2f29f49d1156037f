import com.sun.source.tree.ArrayTypeTree;
import com.sun.source.tree.AssignmentTree;
import com.sun.source.tree.BinaryTree;
import com.sun.source.tree.ClassTree;
import com.sun.source.tree.CompilationUnitTree;
import com.sun.source.tree.CompoundAssignmentTree;
import com.sun.source.tree.ExpressionTree;
import com.sun.source.tree.ForLoopTree;
import com.sun.source.tree.IdentifierTree;
import com.sun.source.tree.MethodInvocationTree;
import com.sun.source.tree.MethodTree;
import com.sun.source.tree.NewArrayTree;
import com.sun.source.tree.NewClassTree;
import com.sun.source.tree.ParenthesizedTree;
import com.sun.source.tree.StatementTree;
import com.sun.source.tree.Tree;
import com.sun.source.tree.TypeCastTree;
import com.sun.source.tree.UnaryTree;
import com.sun.source.tree.VariableTree;
import com.sun.source.util.JavacTask;
import com.sun.source.util.SourcePositions;
import com.sun.source.util.TreePathScanner;
import com.sun.source.util.TreeScanner;
import com.sun.source.util.Trees;
import java.io.File;
import java.io.IOException;
import java.util.HashMap;
import java.util.HashSet;
import java.util.List;
import java.util.Map;
import java.util.Set;
import java.util.TreeSet;
import javax.lang.model.element.Element;
import javax.lang.model.element.Modifier;
import javax.tools.JavaCompiler;
import javax.tools.StandardJavaFileManager;
import javax.tools.ToolProvider;

/** What of LANGUAGE.md the compiler's own tree of the class shows. Runs where .ci/run runs it. */
public final class RulesTest {
    private static final String MAIN = "src/main/java/NamesOnIce.java";
    private static final int MOST_DEEP = 8, MOST_LINES = 60;
    private static final Due due = new Due();

    /** Forms that rules 2, 6 and 9 leave out, and forms that this class does without. */
    private static final Set<Tree.Kind> NO_FORMS = Set.of(Tree.Kind.THROW, Tree.Kind.TRY, Tree.Kind.CATCH,
            Tree.Kind.SYNCHRONIZED, Tree.Kind.ASSERT, Tree.Kind.LAMBDA_EXPRESSION, Tree.Kind.MEMBER_REFERENCE,
            Tree.Kind.IMPORT, Tree.Kind.PACKAGE, Tree.Kind.ANNOTATION, Tree.Kind.WHILE_LOOP, Tree.Kind.DO_WHILE_LOOP,
            Tree.Kind.ENHANCED_FOR_LOOP, Tree.Kind.FLOAT_LITERAL, Tree.Kind.DOUBLE_LITERAL, Tree.Kind.STRING_LITERAL);
    private static final Set<String> LIBRARY = Set.of("Math.min", "Math.max", "Math.abs", "Integer.bitCount");
    private static final Set<String> PLAIN_TYPES = Set.of("int", "long", "boolean", "void");

    private static Trees trees;
    private static CompilationUnitTree unit;
    private static final Set<String> ownTypes = new TreeSet<>();
    private static final Map<Element, Set<Element>> calls = new HashMap<>();

    public static void main(String[] args) throws IOException {
        JavaCompiler compiler = ToolProvider.getSystemJavaCompiler();
        try (StandardJavaFileManager files = compiler.getStandardFileManager(null, null, null)) {
            JavacTask task = (JavacTask) compiler.getTask(null, files, null, List.of("-proc:none"), null,
                    files.getJavaFileObjects(new File(MAIN)));
            unit = task.parse().iterator().next();
            task.analyze();
            trees = Trees.instance(task);
            new OwnTypes().scan(unit, null);
            new Forms().scan(unit, null);
            new Rules().scan(unit, null);
        }
        depths();
        due.end();
    }

    private static void rule(String what, boolean kept) {
        due.is(what, kept ? 1 : 0, 1);
    }

    private static String at(Tree tree) {
        SourcePositions places = trees.getSourcePositions();
        return " in line " + unit.getLineMap().getLineNumber(places.getStartPosition(unit, tree));
    }

    private static final class OwnTypes extends TreeScanner<Void, Void> {
        @Override
        public Void visitClass(ClassTree tree, Void v) {
            ownTypes.add(tree.getSimpleName().toString());
            return super.visitClass(tree, v);
        }
    }

    private static final class Forms extends TreeScanner<Void, Void> {
        @Override
        public Void scan(Tree tree, Void v) {
            if (tree != null && NO_FORMS.contains(tree.getKind())) {
                rule("rules 2 to 9: " + tree.getKind() + at(tree), false);
            }
            return super.scan(tree, v);
        }
    }

    private static final class Rules extends TreePathScanner<Void, Void> {
        private MethodTree method;
        private Element caller;

        @Override
        public Void visitClass(ClassTree tree, Void v) {
            rule("rule 2: a class in a method" + at(tree), method == null);
            boolean whole = tree.getSimpleName().contentEquals("NamesOnIce");
            Set<Modifier> flags = tree.getModifiers().getFlags();
            rule("rules 1, 2: a class inside is static and not open" + at(tree),
                    whole || (flags.contains(Modifier.STATIC) && !flags.contains(Modifier.PUBLIC)
                            && !flags.contains(Modifier.PROTECTED)));
            rule("rule 12: what a constructor calls can't be overridden" + at(tree), flags.contains(Modifier.FINAL));
            for (Tree member : tree.getMembers()) {
                rule("rule 5: no block of its own" + at(member), member.getKind() != Tree.Kind.BLOCK);
            }
            return super.visitClass(tree, v);
        }

        @Override
        public Void visitMethod(MethodTree tree, Void v) {
            method = tree;
            caller = trees.getElement(getCurrentPath());
            calls.put(caller, new HashSet<>());
            SourcePositions places = trees.getSourcePositions();
            long first = unit.getLineMap().getLineNumber(Math.max(0, places.getStartPosition(unit, tree)));
            long last = unit.getLineMap().getLineNumber(Math.max(0, places.getEndPosition(unit, tree)));
            rule("rule 11: lines of " + tree.getName(), last - first < MOST_LINES);
            rule("rule 11: parameters of " + tree.getName(), tree.getParameters().size() <= 7);
            super.visitMethod(tree, v);
            method = null;
            caller = null;
            return null;
        }

        @Override
        public Void visitVariable(VariableTree tree, Void v) {
            rule("rule 3: type of " + tree.getName() + at(tree), isAllowed(tree.getType()));
            return super.visitVariable(tree, v);
        }

        private boolean isAllowed(Tree type) {
            Tree one = type instanceof ArrayTypeTree ? ((ArrayTypeTree) type).getType() : type;
            return one != null && (PLAIN_TYPES.contains(one.toString()) || ownTypes.contains(one.toString()));
        }

        @Override
        public Void visitMethodInvocation(MethodInvocationTree tree, Void v) {
            Element called = trees.getElement(getCurrentPath());
            boolean own = called != null && trees.getTree(called) != null;
            rule("rule 4: " + tree + at(tree), own || LIBRARY.contains(tree.getMethodSelect().toString())
                    || tree.getMethodSelect().toString().equals("super"));
            if (own && caller != null) {
                calls.get(caller).add(called);
            }
            return super.visitMethodInvocation(tree, v);
        }

        @Override
        public Void visitNewClass(NewClassTree tree, Void v) {
            rule("rule 2: no class without a name" + at(tree), tree.getClassBody() == null);
            rule("rule 12: an object is made by a constructor" + at(tree), madeOnce());
            if (caller != null) {
                calls.get(caller).add(trees.getElement(getCurrentPath()));
            }
            return super.visitNewClass(tree, v);
        }

        @Override
        public Void visitNewArray(NewArrayTree tree, Void v) {
            rule("rule 12: a row is made by a constructor" + at(tree), madeOnce());
            rule("rule 3: one dimension" + at(tree), tree.getDimensions().size() == 1);
            return super.visitNewArray(tree, v);
        }

        private boolean madeOnce() {
            return method == null || method.getName().contentEquals("<init>");
        }

        @Override
        public Void visitTypeCast(TypeCastTree tree, Void v) {
            rule("rule 6: a cast to a number" + at(tree), PLAIN_TYPES.contains(tree.getType().toString()));
            return super.visitTypeCast(tree, v);
        }

        @Override
        public Void visitForLoop(ForLoopTree tree, Void v) {
            rule("rule 9: a counter against a bound" + at(tree), endIsSeen(tree));
            return super.visitForLoop(tree, v);
        }

        @Override
        public Void visitBinary(BinaryTree tree, Void v) {
            if (tree.getKind() == Tree.Kind.DIVIDE || tree.getKind() == Tree.Kind.REMAINDER) {
                divisor(tree.getRightOperand());
            }
            return super.visitBinary(tree, v);
        }

        @Override
        public Void visitCompoundAssignment(CompoundAssignmentTree tree, Void v) {
            if (tree.getKind() == Tree.Kind.DIVIDE_ASSIGNMENT || tree.getKind() == Tree.Kind.REMAINDER_ASSIGNMENT) {
                divisor(tree.getExpression());
            }
            return super.visitCompoundAssignment(tree, v);
        }

        private void divisor(ExpressionTree by) {
            boolean number = by.toString().matches("[1-9]\\d*L?");
            rule("rule 7: a divisor is looked at: " + by + at(by), number || isCompared(method, by.toString()));
        }
    }

    /** Whether a method compares this with something. */
    private static boolean isCompared(MethodTree method, String text) {
        boolean[] found = {false};
        new TreeScanner<Void, Void>() {
            @Override
            public Void visitBinary(BinaryTree tree, Void v) {
                boolean compares = Set.of(Tree.Kind.GREATER_THAN, Tree.Kind.LESS_THAN_EQUAL,
                        Tree.Kind.NOT_EQUAL_TO).contains(tree.getKind());
                found[0] |= compares && tree.getLeftOperand().toString().equals(text);
                return super.visitBinary(tree, v);
            }
        }.scan(method, null);
        return found[0];
    }

    /** One counter, 1 more each time, below a bound by which the whole condition stands, and left alone by the body. */
    private static boolean endIsSeen(ForLoopTree loop) {
        if (loop.getInitializer().size() != 1 || loop.getUpdate().size() != 1 || loop.getCondition() == null
                || !(loop.getInitializer().get(0) instanceof VariableTree)) {
            return false;
        }
        String counter = ((VariableTree) loop.getInitializer().get(0)).getName().toString();
        boolean counts = loop.getUpdate().get(0).getExpression().toString().equals(counter + "++");
        return counts && isBounded(loop.getCondition(), counter) && !isChanged(loop.getStatement(), counter);
    }

    private static boolean isBounded(ExpressionTree condition, String counter) {
        if (condition instanceof ParenthesizedTree) {
            return isBounded(((ParenthesizedTree) condition).getExpression(), counter);
        }
        if (!(condition instanceof BinaryTree)) {
            return false;
        }
        BinaryTree both = (BinaryTree) condition;
        if (both.getKind() == Tree.Kind.CONDITIONAL_AND) {
            return isBounded(both.getLeftOperand(), counter) || isBounded(both.getRightOperand(), counter);
        }
        boolean below = both.getKind() == Tree.Kind.LESS_THAN || both.getKind() == Tree.Kind.LESS_THAN_EQUAL;
        return below && both.getLeftOperand().toString().equals(counter);
    }

    private static boolean isChanged(StatementTree body, String name) {
        boolean[] found = {false};
        new TreeScanner<Void, Void>() {
            private void changes(ExpressionTree target) {
                found[0] |= target instanceof IdentifierTree && target.toString().equals(name);
            }

            @Override
            public Void visitAssignment(AssignmentTree tree, Void v) {
                changes(tree.getVariable());
                return super.visitAssignment(tree, v);
            }

            @Override
            public Void visitCompoundAssignment(CompoundAssignmentTree tree, Void v) {
                changes(tree.getVariable());
                return super.visitCompoundAssignment(tree, v);
            }

            @Override
            public Void visitUnary(UnaryTree tree, Void v) {
                boolean steps = !Set.of(Tree.Kind.UNARY_MINUS, Tree.Kind.UNARY_PLUS, Tree.Kind.LOGICAL_COMPLEMENT,
                        Tree.Kind.BITWISE_COMPLEMENT).contains(tree.getKind());
                if (steps) {
                    changes(tree.getExpression());
                }
                return super.visitUnary(tree, v);
            }
        }.scan(body, null);
        return found[0];
    }

    private static void depths() {
        int deepest = 0;
        for (Element from : calls.keySet()) {
            int deep = depthOf(from, 1);
            rule("rules 8, 11: how deep calls go from " + from + " (" + deep + ")", deep <= MOST_DEEP);
            deepest = Math.max(deepest, deep);
        }
        rule("the calls were found", deepest > 3);
    }

    /** A call that comes back to itself goes deeper than any bound. */
    private static int depthOf(Element from, int level) {
        int deepest = level;
        if (level <= MOST_DEEP) {
            for (Element to : calls.getOrDefault(from, Set.of())) {
                deepest = Math.max(deepest, depthOf(to, level + 1));
            }
        }
        return deepest;
    }
}
