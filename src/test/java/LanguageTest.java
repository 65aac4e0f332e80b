import com.sun.source.tree.AssignmentTree;
import com.sun.source.tree.BinaryTree;
import com.sun.source.tree.ClassTree;
import com.sun.source.tree.CompilationUnitTree;
import com.sun.source.tree.CompoundAssignmentTree;
import com.sun.source.tree.ConditionalExpressionTree;
import com.sun.source.tree.DoWhileLoopTree;
import com.sun.source.tree.EnhancedForLoopTree;
import com.sun.source.tree.ExpressionStatementTree;
import com.sun.source.tree.ExpressionTree;
import com.sun.source.tree.ForLoopTree;
import com.sun.source.tree.IdentifierTree;
import com.sun.source.tree.LiteralTree;
import com.sun.source.tree.MethodInvocationTree;
import com.sun.source.tree.MethodTree;
import com.sun.source.tree.NewArrayTree;
import com.sun.source.tree.NewClassTree;
import com.sun.source.tree.ParenthesizedTree;
import com.sun.source.tree.Tree;
import com.sun.source.tree.TypeCastTree;
import com.sun.source.tree.UnaryTree;
import com.sun.source.tree.VariableTree;
import com.sun.source.tree.WhileLoopTree;
import com.sun.source.util.JavacTask;
import com.sun.source.util.TreePath;
import com.sun.source.util.TreePathScanner;
import com.sun.source.util.TreeScanner;
import com.sun.source.util.Trees;
import java.io.IOException;
import java.io.StringWriter;
import java.nio.file.Path;
import java.util.ArrayList;
import java.util.HashSet;
import java.util.List;
import java.util.Map;
import java.util.Set;
import java.util.TreeMap;
import java.util.TreeSet;
import javax.lang.model.element.Element;
import javax.lang.model.element.Modifier;
import javax.lang.model.element.VariableElement;
import javax.tools.JavaCompiler;
import javax.tools.StandardJavaFileManager;
import javax.tools.ToolProvider;

/**
 * The rules of LANGUAGE.md on the tree of the source, as javac reads it. It allows what the class uses and no more, so
 * that a new kind of thing is looked at when it comes: a rule may then allow it, and so may this test.
 */
public final class LanguageTest extends TreePathScanner<Void, Void> {
    private static final Check CHECK = new Check();
    private static final Path SOURCE = Path.of("src/main/java/HalfAsleep.java");
    private static final Set<String> LIBRARY = Set.of("java.lang.Math.max", "java.lang.Math.min", "java.lang.Integer.bitCount",
            "java.lang.System.arraycopy", "java.lang.Object.<init>");
    private static final Set<String> TYPES = Set.of("int", "long", "byte", "boolean", "int[]", "byte[]",
            "HalfAsleep.Town", "HalfAsleep.Standing", "HalfAsleep.Page");
    private static final Set<Tree.Kind> WITHOUT = Set.of(Tree.Kind.LAMBDA_EXPRESSION, Tree.Kind.MEMBER_REFERENCE, Tree.Kind.TRY,
            Tree.Kind.CATCH, Tree.Kind.THROW, Tree.Kind.SYNCHRONIZED, Tree.Kind.ASSERT, Tree.Kind.INSTANCE_OF,
            Tree.Kind.ANNOTATION, Tree.Kind.IMPORT, Tree.Kind.PACKAGE, Tree.Kind.NULL_LITERAL, Tree.Kind.STRING_LITERAL,
            Tree.Kind.DOUBLE_LITERAL, Tree.Kind.FLOAT_LITERAL, Tree.Kind.SWITCH_EXPRESSION, Tree.Kind.DIVIDE_ASSIGNMENT,
            Tree.Kind.REMAINDER_ASSIGNMENT, Tree.Kind.LABELED_STATEMENT);
    private static final int MOST_LINES = 60;
    private static final int MOST_DEEP = 8;
    private static final int MOST_PARAMETERS = 7;
    private static final int MOST_CLASSES = 12;
    private static final int MOST_FIELDS = 20;

    private final CompilationUnitTree unit;
    private final Trees trees;
    private final Map<String, Set<String>> calls = new TreeMap<>();
    private final Set<String> ownMethods = new HashSet<>();
    private int classes;
    private int loops;

    private LanguageTest(CompilationUnitTree unit, Trees trees) {
        this.unit = unit;
        this.trees = trees;
    }

    public static void main(String[] args) throws IOException {
        JavaCompiler compiler = ToolProvider.getSystemJavaCompiler();
        StringWriter said = new StringWriter();
        try (StandardJavaFileManager files = compiler.getStandardFileManager(null, null, null)) {
            JavacTask task = (JavacTask) compiler.getTask(said, files, null, List.of("--release", "17"), null,
                    files.getJavaFileObjects(SOURCE));
            List<CompilationUnitTree> units = new ArrayList<>();
            task.parse().forEach(units::add);
            task.analyze();
            CHECK.holds("javac says nothing: " + said, said.toString().isEmpty());
            LanguageTest test = new LanguageTest(units.get(0), Trees.instance(task));
            test.scan(test.unit, null);
            test.whole();
        }
        CHECK.end("LanguageTest");
    }

    private void holds(String rule, String what, Tree at, boolean so) {
        CHECK.about("rule " + rule);
        long place = trees.getSourcePositions().getStartPosition(unit, at);
        CHECK.holds(what + ", line " + unit.getLineMap().getLineNumber(place), so);
    }

    private Element elementOf(Tree tree) {
        return trees.getElement(TreePath.getPath(unit, tree));
    }

    /** The value of a literal, a sum or a constant that javac knows; null if it is none. */
    private Object constantOf(Tree tree) {
        if (tree instanceof LiteralTree literal) {
            return literal.getValue();
        }
        Element element = elementOf(tree);
        if (element instanceof VariableElement variable) {
            return variable.getConstantValue();
        }
        if (tree instanceof BinaryTree both) {
            Object left = constantOf(both.getLeftOperand());
            return left == null ? null : constantOf(both.getRightOperand());
        }
        return null;
    }

    @Override
    public Void scan(Tree tree, Void nothing) {
        if (tree != null) {
            holds("2, 3, 6", tree.getKind() + " is not used", tree, !WITHOUT.contains(tree.getKind()));
        }
        return super.scan(tree, nothing);
    }

    @Override
    public Void visitClass(ClassTree tree, Void nothing) {
        classes++;
        Set<Modifier> modifiers = tree.getModifiers().getFlags();
        boolean outer = getCurrentPath().getParentPath().getLeaf() == unit;
        boolean right = outer ? modifiers.equals(Set.of(Modifier.PUBLIC, Modifier.FINAL))
                : modifiers.contains(Modifier.STATIC) && modifiers.contains(Modifier.PRIVATE);
        holds("1, 2", tree.getSimpleName() + " is the face, or static and private", tree, right);
        int fields = 0;
        for (Tree member : tree.getMembers()) {
            holds("5", "no initialiser block", member, member.getKind() != Tree.Kind.BLOCK);
            if (member instanceof VariableTree field) {
                fields += field.getModifiers().getFlags().contains(Modifier.STATIC) ? 0 : 1;
                field(field);
            }
        }
        holds("11", tree.getSimpleName() + " has some twenty fields at most", tree, fields <= MOST_FIELDS);
        return super.visitClass(tree, nothing);
    }

    private void field(VariableTree field) {
        Set<Modifier> modifiers = field.getModifiers().getFlags();
        if (modifiers.contains(Modifier.STATIC)) {
            boolean constant = ((VariableElement) elementOf(field)).getConstantValue() != null;
            holds("5", field.getName() + " is a final constant", field, modifiers.contains(Modifier.FINAL) && constant);
        } else {
            holds("1", field.getName() + " is private", field, modifiers.contains(Modifier.PRIVATE));
        }
    }

    @Override
    public Void visitVariable(VariableTree tree, Void nothing) {
        String type = elementOf(tree).asType().toString();
        holds("3", tree.getName() + " is of a type that the class uses: " + type, tree, TYPES.contains(type));
        return super.visitVariable(tree, nothing);
    }

    private static String nameOf(Element method) {
        return method.getEnclosingElement() + "." + method.getSimpleName();
    }

    @Override
    public Void visitMethod(MethodTree tree, Void nothing) {
        String name = nameOf(elementOf(tree));
        // calls are followed by name below, so a name must tell the method
        holds("8", name + " is the only method of its name in its class", tree, ownMethods.add(name));
        holds("11", name + " has seven parameters at most", tree, tree.getParameters().size() <= MOST_PARAMETERS);
        long first = trees.getSourcePositions().getStartPosition(unit, tree);
        long last = trees.getSourcePositions().getEndPosition(unit, tree);
        // javac's own empty constructors have no end
        if (last >= 0) {
            long lines = unit.getLineMap().getLineNumber(last) - unit.getLineMap().getLineNumber(first) + 1;
            holds("11", name + " is short", tree, lines <= MOST_LINES);
        }
        holds("6", name + " names no exception", tree, tree.getThrows().isEmpty());
        calls.computeIfAbsent(name, n -> new TreeSet<>());
        return super.visitMethod(tree, nothing);
    }

    private void called(Tree tree, Element method) {
        Tree parent = enclosing(Tree.Kind.METHOD);
        String name = nameOf(method);
        if (parent != null && name.startsWith("HalfAsleep")) {
            calls.computeIfAbsent(nameOf(elementOf(parent)), n -> new TreeSet<>()).add(name);
        }
        holds("4", name + " is own or in the list", tree, name.startsWith("HalfAsleep") || LIBRARY.contains(name));
    }

    private Tree enclosing(Tree.Kind kind) {
        for (TreePath path = getCurrentPath(); path != null; path = path.getParentPath()) {
            if (path.getLeaf().getKind() == kind) {
                return path.getLeaf();
            }
        }
        return null;
    }

    @Override
    public Void visitMethodInvocation(MethodInvocationTree tree, Void nothing) {
        called(tree, elementOf(tree));
        return super.visitMethodInvocation(tree, nothing);
    }

    private void madeInField(Tree tree) {
        Tree parent = getCurrentPath().getParentPath().getLeaf();
        holds("12", "only a field's own line makes an object", tree,
                parent instanceof VariableTree && enclosing(Tree.Kind.METHOD) == null);
    }

    @Override
    public Void visitNewClass(NewClassTree tree, Void nothing) {
        madeInField(tree);
        holds("2", "no class without a name", tree, tree.getClassBody() == null);
        return super.visitNewClass(tree, nothing);
    }

    @Override
    public Void visitNewArray(NewArrayTree tree, Void nothing) {
        madeInField(tree);
        for (ExpressionTree length : tree.getDimensions()) {
            holds("7", "a length is a constant", length, constantOf(length) != null);
        }
        return super.visitNewArray(tree, nothing);
    }

    @Override
    public Void visitTypeCast(TypeCastTree tree, Void nothing) {
        holds("6", "a cast is one of numbers", tree, tree.getType().getKind() == Tree.Kind.PRIMITIVE_TYPE);
        return super.visitTypeCast(tree, nothing);
    }

    @Override
    public Void visitBinary(BinaryTree tree, Void nothing) {
        if (tree.getKind() == Tree.Kind.DIVIDE || tree.getKind() == Tree.Kind.REMAINDER) {
            Object value = constantOf(tree.getRightOperand());
            boolean constant = value instanceof Integer number && number != 0;
            holds("7", "a divisor is a constant or looked at", tree, constant || isLookedAt(tree.getRightOperand()));
        }
        return super.visitBinary(tree, nothing);
    }

    /** The divisor stands in one branch of a ?: that asks about it. */
    private boolean isLookedAt(Tree divisor) {
        Tree choice = enclosing(Tree.Kind.CONDITIONAL_EXPRESSION);
        return choice instanceof ConditionalExpressionTree asked
                && asked.getCondition().toString().contains(divisor.toString() + " <= 0");
    }

    /** The names that ++ (or --) steps inside a tree. */
    private static Set<String> stepped(Tree tree, Tree.Kind step) {
        Set<String> names = new HashSet<>();
        new TreeScanner<Void, Void>() {
            @Override
            public Void visitUnary(UnaryTree unary, Void nothing) {
                if (unary.getKind() == step) {
                    names.add(unary.getExpression().toString());
                }
                return super.visitUnary(unary, nothing);
            }
        }.scan(tree, null);
        return names;
    }

    /** The names that anything but a step behind the name changes inside a tree. */
    private static Set<String> set(Tree tree) {
        Set<String> names = new HashSet<>();
        new TreeScanner<Void, Void>() {
            @Override
            public Void visitUnary(UnaryTree unary, Void nothing) {
                if (unary.getKind() == Tree.Kind.PREFIX_INCREMENT || unary.getKind() == Tree.Kind.PREFIX_DECREMENT) {
                    names.add(unary.getExpression().toString());
                }
                return super.visitUnary(unary, nothing);
            }

            @Override
            public Void visitAssignment(AssignmentTree assignment, Void nothing) {
                names.add(assignment.getVariable().toString());
                return super.visitAssignment(assignment, nothing);
            }

            @Override
            public Void visitCompoundAssignment(CompoundAssignmentTree assignment, Void nothing) {
                names.add(assignment.getVariable().toString());
                return super.visitCompoundAssignment(assignment, nothing);
            }
        }.scan(tree, null);
        return names;
    }

    /** The counters that a condition bounds: those left of such a comparison, in a row of && alone. */
    private static Set<String> bounded(Tree condition, Set<Tree.Kind> comparisons) {
        Set<String> names = new HashSet<>();
        if (condition instanceof ParenthesizedTree inner) {
            return bounded(inner.getExpression(), comparisons);
        }
        if (condition instanceof BinaryTree both) {
            if (both.getKind() == Tree.Kind.CONDITIONAL_AND) {
                names.addAll(bounded(both.getLeftOperand(), comparisons));
                names.addAll(bounded(both.getRightOperand(), comparisons));
            } else if (comparisons.contains(both.getKind()) && both.getLeftOperand() instanceof IdentifierTree name) {
                names.add(name.getName().toString());
            }
        }
        return names;
    }

    /** The counters that go up to a bound, or down to one, by the steps inside a tree. */
    private static Set<String> counters(Tree condition, Tree steps) {
        Set<String> up = bounded(condition, Set.of(Tree.Kind.LESS_THAN, Tree.Kind.LESS_THAN_EQUAL));
        up.retainAll(stepped(steps, Tree.Kind.POSTFIX_INCREMENT));
        up.removeAll(stepped(steps, Tree.Kind.POSTFIX_DECREMENT));
        Set<String> down = bounded(condition, Set.of(Tree.Kind.GREATER_THAN, Tree.Kind.GREATER_THAN_EQUAL));
        down.retainAll(stepped(steps, Tree.Kind.POSTFIX_DECREMENT));
        down.removeAll(stepped(steps, Tree.Kind.POSTFIX_INCREMENT));
        up.addAll(down);
        up.removeAll(set(steps));
        return up;
    }

    @Override
    public Void visitForLoop(ForLoopTree tree, Void nothing) {
        loops++;
        Set<String> counters = new HashSet<>();
        for (ExpressionStatementTree update : tree.getUpdate()) {
            counters.addAll(counters(tree.getCondition(), update));
        }
        Tree body = tree.getStatement();
        counters.removeAll(set(body));
        counters.removeAll(stepped(body, Tree.Kind.POSTFIX_INCREMENT));
        counters.removeAll(stepped(body, Tree.Kind.POSTFIX_DECREMENT));
        holds("9", "a for has a counter that goes to a bound by its own line alone", tree, !counters.isEmpty());
        return super.visitForLoop(tree, nothing);
    }

    @Override
    public Void visitWhileLoop(WhileLoopTree tree, Void nothing) {
        loops++;
        Set<String> counters = counters(tree.getCondition(), tree.getStatement());
        holds("9", "a while has a counter that goes to a bound", tree, !counters.isEmpty());
        return super.visitWhileLoop(tree, nothing);
    }

    @Override
    public Void visitDoWhileLoop(DoWhileLoopTree tree, Void nothing) {
        holds("9", "no do", tree, false);
        return super.visitDoWhileLoop(tree, nothing);
    }

    @Override
    public Void visitEnhancedForLoop(EnhancedForLoopTree tree, Void nothing) {
        holds("9", "no for over a row", tree, false);
        return super.visitEnhancedForLoop(tree, nothing);
    }

    private void whole() {
        CHECK.about("rules 8, 9, 11");
        CHECK.holds("some twelve classes at most", classes <= MOST_CLASSES);
        CHECK.holds("classes, methods, calls and loops were found", classes >= 2 && ownMethods.size() >= 27
                && calls.values().stream().mapToInt(Set::size).sum() >= 27 && loops >= 1);
        for (String method : calls.keySet()) {
            int deep = depth(method, new ArrayList<>());
            CHECK.holds(method + " calls at most eight deep, and itself never: " + deep, deep <= MOST_DEEP);
        }
    }

    /** How many calls stand open at once below this one and with it; more than are allowed, if one calls itself. */
    private int depth(String method, List<String> open) {
        if (open.contains(method)) {
            return MOST_DEEP + 1;
        }
        open.add(method);
        int deepest = 0;
        for (String called : calls.getOrDefault(method, Set.of())) {
            deepest = Math.max(deepest, depth(called, open));
        }
        open.remove(method);
        return deepest + 1;
    }
}
