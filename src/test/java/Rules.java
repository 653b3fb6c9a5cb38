import com.sun.source.tree.ArrayAccessTree;
import com.sun.source.tree.BinaryTree;
import com.sun.source.tree.ClassTree;
import com.sun.source.tree.CompilationUnitTree;
import com.sun.source.tree.CompoundAssignmentTree;
import com.sun.source.tree.ExpressionTree;
import com.sun.source.tree.ForLoopTree;
import com.sun.source.tree.LiteralTree;
import com.sun.source.tree.MethodInvocationTree;
import com.sun.source.tree.MethodTree;
import com.sun.source.tree.NewArrayTree;
import com.sun.source.tree.NewClassTree;
import com.sun.source.tree.ThrowTree;
import com.sun.source.tree.Tree;
import com.sun.source.tree.TypeCastTree;
import com.sun.source.tree.VariableTree;
import com.sun.source.tree.WhileLoopTree;
import com.sun.source.util.TreePath;
import com.sun.source.util.TreePathScanner;
import com.sun.source.util.Trees;
import java.util.ArrayDeque;
import java.util.Deque;
import java.util.HashSet;
import java.util.Map;
import java.util.Set;
import java.util.TreeMap;
import java.util.TreeSet;
import javax.lang.model.element.Element;
import javax.lang.model.element.ElementKind;
import javax.lang.model.element.Modifier;
import javax.lang.model.element.VariableElement;

/** The rules of ../shared/LANGUAGE.md as far as a tree shows them; narrower than them where the class needs less. */
final class Rules extends TreePathScanner<Void, Void> {
    private static final Set<Tree.Kind> USED = Set.of(Tree.Kind.COMPILATION_UNIT, Tree.Kind.IMPORT, Tree.Kind.CLASS,
            Tree.Kind.METHOD, Tree.Kind.VARIABLE, Tree.Kind.BLOCK, Tree.Kind.MODIFIERS, Tree.Kind.PRIMITIVE_TYPE,
            Tree.Kind.ARRAY_TYPE, Tree.Kind.PARAMETERIZED_TYPE, Tree.Kind.IDENTIFIER, Tree.Kind.MEMBER_SELECT,
            Tree.Kind.EXPRESSION_STATEMENT, Tree.Kind.METHOD_INVOCATION, Tree.Kind.NEW_CLASS, Tree.Kind.NEW_ARRAY,
            Tree.Kind.ARRAY_ACCESS, Tree.Kind.RETURN, Tree.Kind.IF, Tree.Kind.FOR_LOOP, Tree.Kind.WHILE_LOOP,
            Tree.Kind.CONTINUE, Tree.Kind.BREAK, Tree.Kind.THROW, Tree.Kind.PARENTHESIZED, Tree.Kind.TYPE_CAST,
            Tree.Kind.CONDITIONAL_EXPRESSION, Tree.Kind.CONDITIONAL_AND, Tree.Kind.CONDITIONAL_OR,
            Tree.Kind.LOGICAL_COMPLEMENT, Tree.Kind.BITWISE_COMPLEMENT, Tree.Kind.UNARY_MINUS,
            Tree.Kind.POSTFIX_INCREMENT, Tree.Kind.POSTFIX_DECREMENT, Tree.Kind.ASSIGNMENT, Tree.Kind.PLUS_ASSIGNMENT,
            Tree.Kind.MINUS_ASSIGNMENT, Tree.Kind.OR_ASSIGNMENT, Tree.Kind.PLUS, Tree.Kind.MINUS, Tree.Kind.MULTIPLY,
            Tree.Kind.DIVIDE, Tree.Kind.REMAINDER, Tree.Kind.AND, Tree.Kind.OR, Tree.Kind.LEFT_SHIFT,
            Tree.Kind.RIGHT_SHIFT, Tree.Kind.EQUAL_TO, Tree.Kind.NOT_EQUAL_TO, Tree.Kind.LESS_THAN,
            Tree.Kind.LESS_THAN_EQUAL, Tree.Kind.GREATER_THAN, Tree.Kind.GREATER_THAN_EQUAL, Tree.Kind.INT_LITERAL,
            Tree.Kind.CHAR_LITERAL, Tree.Kind.STRING_LITERAL, Tree.Kind.BOOLEAN_LITERAL);
    private static final Set<String> LIBRARY = Set.of("java.lang.Math.max", "java.lang.Math.min", "java.lang.Math.abs",
            "java.lang.String.equals", "java.lang.StringBuilder.append", "java.lang.AbstractStringBuilder.length",
            "java.lang.AbstractStringBuilder.setLength", "java.lang.StringBuilder.toString", "java.util.ArrayList.add",
            "java.util.ArrayList.get", "java.util.ArrayList.size", "java.util.ArrayList.isEmpty",
            "java.lang.Object.<init>");
    private static final Set<String> TYPES = Set.of("int", "boolean", "char", "int[]", "java.lang.String",
            "java.lang.StringBuilder", "java.util.ArrayList<Patchferry.Row>", "java.util.ArrayList<Patchferry.Patch>");
    private static final Set<String> THROWN = Set.of("IllegalStateException", "IllegalArgumentException",
            "IndexOutOfBoundsException", "UnsupportedOperationException", "NoSuchElementException");
    /** Divisors that are no constants: each one is tested against 0 in the lines ahead of it. */
    private static final Set<String> TESTED = Set.of("alike lengths", "share (float)made", "meanLength (double)many");
    private static final int MOST_LINES = 60;
    private static final int MOST_PARAMETERS = 7;
    private static final int MOST_CLASSES = 12;
    private static final int MOST_FIELDS = 20;
    private static final int MOST_DEEP = 8;

    private final CompilationUnitTree unit;
    private final Trees trees;
    private final Deque<String> classes = new ArrayDeque<>();
    private final Map<String, Set<String>> calls = new TreeMap<>();
    private final Set<String> faces = new TreeSet<>();
    private final Set<String> divisors = new HashSet<>();
    private int countedClasses;
    private String method = "";

    Rules(CompilationUnitTree unit, Trees trees) {
        this.unit = unit;
        this.trees = trees;
    }

    private void rule(int number, Tree tree, boolean holds) {
        if (!holds) {
            Check.report("rule " + number + ", line " + line(tree) + ": " + tree.toString().trim().split("\n")[0]);
        }
    }

    private long line(Tree tree) {
        return unit.getLineMap().getLineNumber(trees.getSourcePositions().getStartPosition(unit, tree));
    }

    private long lastLine(Tree tree) {
        return unit.getLineMap().getLineNumber(trees.getSourcePositions().getEndPosition(unit, tree));
    }

    /** Rules 2, 6 and 10: no kind of expression or statement but those that the class uses and the rules allow. */
    @Override
    public Void scan(Tree tree, Void none) {
        if (tree != null) {
            rule(10, tree, USED.contains(tree.getKind()));
        }
        return super.scan(tree, none);
    }

    @Override
    public Void visitClass(ClassTree tree, Void none) {
        countedClasses++;
        Set<Modifier> modifiers = tree.getModifiers().getFlags();
        boolean isOuter = classes.isEmpty();
        rule(1, tree, modifiers.equals(isOuter ? Set.of(Modifier.PUBLIC, Modifier.FINAL)
                : Set.of(Modifier.STATIC, Modifier.FINAL)));
        rule(1, tree, classes.size() < 2);
        long fields = tree.getMembers().stream().filter(VariableTree.class::isInstance)
                .filter(one -> !((VariableTree) one).getModifiers().getFlags().contains(Modifier.STATIC)).count();
        rule(11, tree, fields <= MOST_FIELDS);
        rule(5, tree, tree.getMembers().stream().noneMatch(one -> one.getKind() == Tree.Kind.BLOCK));
        classes.push(tree.getSimpleName().toString());
        super.visitClass(tree, none);
        classes.pop();
        return null;
    }

    @Override
    public Void visitMethod(MethodTree tree, Void none) {
        method = name(trees.getElement(getCurrentPath()));
        Set<Modifier> modifiers = tree.getModifiers().getFlags();
        if (modifiers.contains(Modifier.PUBLIC)) {
            rule(1, tree, classes.size() == 1);
            faces.add(method);
        } else {
            rule(1, tree, classes.size() == 2 || modifiers.contains(Modifier.PRIVATE));
        }
        rule(1, tree, !modifiers.contains(Modifier.PROTECTED));
        rule(11, tree, tree.getParameters().size() <= MOST_PARAMETERS);
        rule(11, tree, lastLine(tree) - line(tree) < MOST_LINES);
        calls.putIfAbsent(method, new TreeSet<>());
        return super.visitMethod(tree, none);
    }

    private static String name(Element element) {
        Element owner = element.getEnclosingElement();
        String of = owner.getSimpleName().toString();
        boolean isOwn = owner.toString().startsWith("Patchferry");
        return (isOwn ? of : owner.toString()) + "." + element.getSimpleName();
    }

    @Override
    public Void visitVariable(VariableTree tree, Void none) {
        Element element = trees.getElement(getCurrentPath());
        String type = element.asType().toString();
        rule(3, tree, TYPES.contains(type) || type.startsWith("Patchferry."));
        Set<Modifier> modifiers = tree.getModifiers().getFlags();
        if (element.getKind() == ElementKind.FIELD) {
            rule(1, tree, modifiers.contains(Modifier.PRIVATE));
            boolean isConstant = ((VariableElement) element).getConstantValue() != null;
            rule(5, tree, !modifiers.contains(Modifier.STATIC) || isConstant);
        }
        return super.visitVariable(tree, none);
    }

    @Override
    public Void visitMethodInvocation(MethodInvocationTree tree, Void none) {
        Element called = trees.getElement(getCurrentPath());
        String name = name(called);
        calls.computeIfAbsent(method, key -> new TreeSet<>()).add(name);
        boolean isOwn = called.getEnclosingElement().toString().startsWith("Patchferry");
        rule(4, tree, isOwn || LIBRARY.contains(name));
        return super.visitMethodInvocation(tree, none);
    }

    @Override
    public Void visitNewClass(NewClassTree tree, Void none) {
        calls.computeIfAbsent(method, key -> new TreeSet<>()).add(name(trees.getElement(getCurrentPath())));
        String made = tree.getIdentifier().toString();
        boolean isThrown = getCurrentPath().getParentPath().getLeaf().getKind() == Tree.Kind.THROW;
        rule(4, tree, isThrown || isOwnClass(made) || made.equals("StringBuilder") || made.startsWith("ArrayList<"));
        rule(2, tree, tree.getClassBody() == null);
        rule(12, tree, !isInLoop());
        return super.visitNewClass(tree, none);
    }

    private static boolean isOwnClass(String name) {
        for (Class<?> one : Patchferry.class.getDeclaredClasses()) {
            if (one.getSimpleName().equals(name)) {
                return true;
            }
        }
        return false;
    }

    private boolean isInLoop() {
        for (TreePath path = getCurrentPath(); path != null; path = path.getParentPath()) {
            Tree.Kind kind = path.getLeaf().getKind();
            if (kind == Tree.Kind.FOR_LOOP || kind == Tree.Kind.WHILE_LOOP) {
                return true;
            }
        }
        return false;
    }

    @Override
    public Void visitThrow(ThrowTree tree, Void none) {
        rule(6, tree, !method.endsWith("<init>") && classes.size() == 1);
        rule(6, tree, tree.getExpression() instanceof NewClassTree);
        if (tree.getExpression() instanceof NewClassTree) {
            NewClassTree made = (NewClassTree) tree.getExpression();
            rule(6, tree, THROWN.contains(made.getIdentifier().toString()));
            rule(6, tree, made.getArguments().size() == 1
                    && made.getArguments().get(0).getKind() == Tree.Kind.STRING_LITERAL);
        }
        return super.visitThrow(tree, none);
    }

    /** Rule 7: arrays stand in Row alone, where each index is looked at. */
    @Override
    public Void visitArrayAccess(ArrayAccessTree tree, Void none) {
        rule(7, tree, "Row".equals(classes.peek()));
        return super.visitArrayAccess(tree, none);
    }

    @Override
    public Void visitNewArray(NewArrayTree tree, Void none) {
        rule(7, tree, method.equals("Row.<init>") && tree.getDimensions().size() == 1);
        return super.visitNewArray(tree, none);
    }

    @Override
    public Void visitBinary(BinaryTree tree, Void none) {
        String left = typeOf(tree.getLeftOperand());
        String right = typeOf(tree.getRightOperand());
        boolean isText = left.equals("java.lang.String") || right.equals("java.lang.String");
        rule(10, tree, !isText);
        boolean isDivision = tree.getKind() == Tree.Kind.DIVIDE || tree.getKind() == Tree.Kind.REMAINDER;
        if (isDivision && !isConstantAbove0(tree.getRightOperand())) {
            String divisor = method.substring(method.indexOf('.') + 1) + " " + tree.getRightOperand();
            rule(7, tree, TESTED.contains(divisor));
            divisors.add(divisor);
        }
        return super.visitBinary(tree, none);
    }

    private String typeOf(ExpressionTree tree) {
        return String.valueOf(trees.getTypeMirror(new TreePath(getCurrentPath(), tree)));
    }

    private boolean isConstantAbove0(ExpressionTree tree) {
        Object value = tree instanceof LiteralTree ? ((LiteralTree) tree).getValue() : null;
        Element element = trees.getElement(new TreePath(getCurrentPath(), tree));
        if (element instanceof VariableElement) {
            value = ((VariableElement) element).getConstantValue();
        }
        return value instanceof Integer && (Integer) value > 0;
    }

    @Override
    public Void visitCompoundAssignment(CompoundAssignmentTree tree, Void none) {
        rule(10, tree, !typeOf(tree.getVariable()).equals("java.lang.String"));
        return super.visitCompoundAssignment(tree, none);
    }

    /** Rule 6: casts among numbers alone. */
    @Override
    public Void visitTypeCast(TypeCastTree tree, Void none) {
        rule(6, tree, Set.of("char", "float", "double").contains(tree.getType().toString()));
        return super.visitTypeCast(tree, none);
    }

    /** Rule 9: a loop has a bound, and its counter goes on. */
    @Override
    public Void visitForLoop(ForLoopTree tree, Void none) {
        rule(9, tree, tree.getCondition() instanceof BinaryTree && tree.getInitializer().size() == 1
                && tree.getUpdate().size() == 1);
        return super.visitForLoop(tree, none);
    }

    @Override
    public Void visitWhileLoop(WhileLoopTree tree, Void none) {
        String condition = tree.getCondition().toString();
        rule(9, tree, condition.contains("<") || condition.contains(">"));
        return super.visitWhileLoop(tree, none);
    }

    /** What only shows when all has been seen: rules 7, 8 and 11. */
    void end() {
        Check.isTrue("rule 11: few classes: " + countedClasses, countedClasses <= MOST_CLASSES);
        Check.same("rule 7: divisors that are no constants", new TreeSet<>(divisors).toString(),
                new TreeSet<>(TESTED).toString());
        Check.same("methods of the face and the constructor", faces.size(), 71);
        Map<String, Integer> depths = new TreeMap<>();
        for (String face : faces) {
            int depth = depth(face, depths, new TreeSet<>());
            Check.isTrue("rule 11: " + face + " goes " + depth + " deep", depth <= MOST_DEEP);
        }
    }

    private int depth(String from, Map<String, Integer> depths, Set<String> open) {
        if (!open.add(from)) {
            Check.report("rule 8: " + from + " comes back to itself");
            return 0;
        }
        if (!depths.containsKey(from)) {
            int most = 0;
            for (String called : calls.getOrDefault(from, Set.of())) {
                most = Math.max(most, depth(called, depths, open));
            }
            depths.put(from, most + 1);
        }
        open.remove(from);
        return depths.get(from);
    }
}
