import com.sun.source.tree.*;
import com.sun.source.util.TreePathScanner;
import com.sun.source.util.Trees;
import java.util.ArrayList;
import java.util.List;
import java.util.Map;
import java.util.Set;
import java.util.TreeMap;
import java.util.TreeSet;
import javax.lang.model.element.Element;
import javax.lang.model.element.ElementKind;
import javax.lang.model.element.ExecutableElement;
import javax.lang.model.element.Modifier;
import javax.lang.model.element.TypeElement;
import javax.lang.model.element.VariableElement;
import javax.lang.model.type.ArrayType;
import javax.lang.model.type.TypeKind;
import javax.lang.model.type.TypeMirror;

/** Goes through a source that the compiler has read, and notes which rule of LANGUAGE.md is broken where. */
final class SourceRules extends TreePathScanner<Void, Void> {
    private static final int PARAMETERS = 7, LINES = 60;
    private static final Set<String> LIBRARY_TYPES = Set.of("java.lang.String", "java.lang.StringBuilder", "java.lang.Integer");
    private static final Set<String> LIBRARY_CALLS = Set.of(
        "System.arraycopy", "Arrays.copyOf", "Arrays.copyOfRange", "Arrays.fill", "Math.abs", "Math.max", "Math.min",
        "Math.floorDiv", "Math.floorMod", "Integer.bitCount", "Integer.compare", "Integer.max", "Integer.min",
        "Long.bitCount", "Long.compare", "Long.max", "Long.min", "String.length", "String.charAt", "String.isEmpty",
        "String.equals", "String.indexOf", "String.substring", "String.toCharArray", "StringBuilder.append",
        "StringBuilder.charAt", "StringBuilder.setCharAt", "StringBuilder.setLength", "StringBuilder.deleteCharAt",
        "StringBuilder.reverse", "StringBuilder.length", "StringBuilder.toString");

    private final Trees trees;
    private final CompilationUnitTree unit;
    private final List<String> broken = new ArrayList<>();
    private final Set<String> face = new TreeSet<>();
    private final Map<String, Integer> fields = new TreeMap<>();
    private final Map<String, Set<String>> calls = new TreeMap<>();
    private MethodTree method = null;
    private int loops = 0;

    SourceRules(Trees trees, CompilationUnitTree unit) {
        this.trees = trees;
        this.unit = unit;
    }

    List<String> broken() {
        return broken;
    }

    /** Of each class how many fields beside constants it has. */
    Map<String, Integer> fields() {
        return fields;
    }

    /** Of each method which methods of the program it calls. */
    Map<String, Set<String>> calls() {
        return calls;
    }

    void broke(String rule) {
        broken.add(rule);
    }

    private void broke(String rule, Tree tree) {
        broke(rule + ", line " + unit.getLineMap().getLineNumber(start(tree)) + ": " + tree.toString().lines().findFirst().orElse(""));
    }

    private long start(Tree tree) {
        return trees.getSourcePositions().getStartPosition(unit, tree);
    }

    private static String named(ExecutableElement e) {
        return e.getEnclosingElement().getSimpleName() + "." + e.getSimpleName() + e.getParameters().size();
    }

    private static boolean isOwn(Element e) {
        Element outermost = e;
        while (outermost.getEnclosingElement() != null && outermost.getEnclosingElement().getKind() != ElementKind.PACKAGE) {
            outermost = outermost.getEnclosingElement();
        }
        return outermost.getSimpleName().contentEquals("CoatGoals");
    }

    @Override
    public Void visitClass(ClassTree tree, Void none) {
        boolean isOuter = getCurrentPath().getParentPath().getLeaf() == unit;
        boolean isMember = getCurrentPath().getParentPath().getLeaf() instanceof ClassTree;
        Set<Modifier> flags = tree.getModifiers().getFlags();
        if (!isOuter && !isMember) {
            broke("2, a class in a method", tree);
        } else if (!isOuter && (!flags.contains(Modifier.STATIC) || flags.contains(Modifier.PUBLIC) || flags.contains(Modifier.PROTECTED))) {
            broke("1, a class inside is static, private or package-visible", tree);
        }
        if (isOuter) {
            face(tree);
        }
        fields.put(tree.getSimpleName().toString(), 0);
        for (Tree member : tree.getMembers()) {
            if (member instanceof VariableTree field) {
                field(tree, field);
            } else if (member instanceof BlockTree) {
                broke("5, a block in a class", member);
            }
        }
        return super.visitClass(tree, none);
    }

    private void face(ClassTree tree) {
        for (Tree member : tree.getMembers()) {
            if (member instanceof MethodTree m && m.getModifiers().getFlags().contains(Modifier.PUBLIC)) {
                face.add(m.getName().toString());
            }
        }
    }

    private void field(ClassTree owner, VariableTree field) {
        Set<Modifier> flags = field.getModifiers().getFlags();
        if (!flags.contains(Modifier.STATIC)) {
            fields.merge(owner.getSimpleName().toString(), 1, Integer::sum);
            return;
        }
        VariableElement e = (VariableElement) trees.getElement(trees.getPath(unit, field));
        boolean isTable = field.getInitializer() instanceof NewArrayTree table && table.getInitializers() != null;
        if (!flags.contains(Modifier.FINAL) || e.getConstantValue() == null && !isTable) {
            broke("5, a static field that is no constant", field);
        }
    }

    @Override
    public Void visitMethod(MethodTree tree, Void none) {
        MethodTree outer = method;
        method = tree;
        ExecutableElement e = (ExecutableElement) trees.getElement(getCurrentPath());
        calls.putIfAbsent(named(e), new TreeSet<>());
        boolean isOfFace = e.getModifiers().contains(Modifier.PUBLIC);
        if (!isOfFace && tree.getReturnType() != null && face.contains(tree.getName().toString())) {
            broke("1, a name of the face once more", tree);
        }
        long first = unit.getLineMap().getLineNumber(start(tree));
        long last = unit.getLineMap().getLineNumber(trees.getSourcePositions().getEndPosition(unit, tree));
        if (tree.getParameters().size() > PARAMETERS) {
            broke("11, parameters of " + named(e));
        }
        if (last - first + 1 > LINES) {
            broke("11, lines of " + named(e));
        }
        if (tree.getReturnType() != null) {
            type(e.getReturnType(), tree);
        }
        super.visitMethod(tree, none);
        method = outer;
        return null;
    }

    @Override
    public Void visitVariable(VariableTree tree, Void none) {
        type(trees.getElement(getCurrentPath()).asType(), tree);
        return super.visitVariable(tree, none);
    }

    private void type(TypeMirror type, Tree tree) {
        if (!isAllowed(type)) {
            broke("3, type " + type, tree);
        }
    }

    private boolean isAllowed(TypeMirror type) {
        if (type.getKind() == TypeKind.ARRAY) {
            TypeMirror of = ((ArrayType) type).getComponentType();
            if (of.getKind() == TypeKind.ARRAY) {
                return ((ArrayType) of).getComponentType().getKind().isPrimitive();
            }
            return isAllowed(of);
        }
        if (type.getKind() == TypeKind.VOID || type.getKind().isPrimitive()) {
            return true;
        }
        Element e = trees.getTypeMirror(getCurrentPath()) == null ? null : elementOf(type);
        return e instanceof TypeElement t && (isOwn(t) || LIBRARY_TYPES.contains(t.getQualifiedName().toString()));
    }

    private static Element elementOf(TypeMirror type) {
        return type instanceof javax.lang.model.type.DeclaredType d ? d.asElement() : null;
    }

    @Override
    public Void visitMethodInvocation(MethodInvocationTree tree, Void none) {
        Element e = trees.getElement(getCurrentPath());
        if (e instanceof ExecutableElement called) {
            called(called, tree);
        }
        return super.visitMethodInvocation(tree, none);
    }

    private void called(ExecutableElement called, Tree tree) {
        if (called.getKind() == ElementKind.CONSTRUCTOR) {
            return;
        }
        if (!isOwn(called)) {
            if (!LIBRARY_CALLS.contains(called.getEnclosingElement().getSimpleName() + "." + called.getSimpleName())) {
                broke("4, a call of the library", tree);
            }
            return;
        }
        ExecutableElement caller = method == null ? null : (ExecutableElement) trees.getElement(trees.getPath(unit, method));
        if (caller != null) {
            calls.computeIfAbsent(named(caller), k -> new TreeSet<>()).add(named(called));
            boolean isOpen = !called.getModifiers().contains(Modifier.PRIVATE) || !called.getModifiers().contains(Modifier.STATIC);
            if (caller.equals(called) && isOpen) {
                broke("8, a method that calls itself is private and static", tree);
            }
        }
    }

    @Override
    public Void visitNewClass(NewClassTree tree, Void none) {
        if (tree.getClassBody() != null) {
            broke("2, a class without a name", tree);
        }
        madeIn(tree);
        return super.visitNewClass(tree, none);
    }

    @Override
    public Void visitNewArray(NewArrayTree tree, Void none) {
        madeIn(tree);
        return super.visitNewArray(tree, none);
    }

    /** The rows of an object are made in loops of its constructor, and there alone. */
    private void madeIn(Tree tree) {
        if (loops > 0 && (method == null || method.getReturnType() != null)) {
            broke("12, an object made in a loop", tree);
        }
    }

    @Override
    public Void visitTypeCast(TypeCastTree tree, Void none) {
        if (!(tree.getType() instanceof PrimitiveTypeTree)) {
            broke("6, a cast among objects", tree);
        }
        return super.visitTypeCast(tree, none);
    }

    @Override
    public Void visitBinary(BinaryTree tree, Void none) {
        TypeMirror type = trees.getTypeMirror(getCurrentPath());
        if (tree.getKind() == Tree.Kind.PLUS && !type.getKind().isPrimitive()) {
            broke("6, texts joined by +", tree);
        }
        if (tree.getKind() == Tree.Kind.DIVIDE || tree.getKind() == Tree.Kind.REMAINDER) {
            divisor(tree.getRightOperand(), tree);
        }
        return super.visitBinary(tree, none);
    }

    @Override
    public Void visitCompoundAssignment(CompoundAssignmentTree tree, Void none) {
        if (tree.getKind() == Tree.Kind.DIVIDE_ASSIGNMENT || tree.getKind() == Tree.Kind.REMAINDER_ASSIGNMENT) {
            divisor(tree.getExpression(), tree);
        }
        return super.visitCompoundAssignment(tree, none);
    }

    /** A divisor is a number that is not 0, or the method compares it with 0. */
    private void divisor(ExpressionTree by, Tree tree) {
        Number number = constantOf(by);
        if (number != null) {
            if (number.longValue() == 0) {
                broke("7, divided by 0", tree);
            }
            return;
        }
        String text = java.util.regex.Pattern.quote(by.toString());
        boolean isTested = method != null && java.util.regex.Pattern.compile(
            "(?<![\\w.])" + text + " (==|!=|>) 0L?\\b").matcher(method.getBody().toString()).find();
        if (!isTested) {
            broke("7, a divisor that is not looked at", tree);
        }
    }

    private Number constantOf(ExpressionTree by) {
        if (by instanceof ParenthesizedTree in) {
            return constantOf(in.getExpression());
        }
        if (by instanceof LiteralTree literal) {
            return literal.getValue() instanceof Number number ? number : null;
        }
        if (by instanceof BinaryTree sum && sum.getKind() == Tree.Kind.PLUS) {
            Number left = constantOf(sum.getLeftOperand());
            Number right = constantOf(sum.getRightOperand());
            return left == null || right == null ? null : (Number) (left.longValue() + right.longValue());
        }
        Element e = trees.getElement(trees.getPath(unit, by));
        return e instanceof VariableElement v && v.getConstantValue() instanceof Number number ? number : null;
    }

    private void loop(ExpressionTree condition, Tree tree) {
        if (condition == null || !condition.toString().matches("(?s).*[^<>-](<|>|<=|>=)[^<>].*")) {
            broke("9, a loop without a bound in its own lines", tree);
        }
    }

    @Override
    public Void visitForLoop(ForLoopTree tree, Void none) {
        loop(tree.getCondition(), tree);
        loops++;
        super.visitForLoop(tree, none);
        loops--;
        return null;
    }

    @Override
    public Void visitWhileLoop(WhileLoopTree tree, Void none) {
        loop(tree.getCondition(), tree);
        loops++;
        super.visitWhileLoop(tree, none);
        loops--;
        return null;
    }

    @Override
    public Void visitDoWhileLoop(DoWhileLoopTree tree, Void none) {
        loop(tree.getCondition(), tree);
        loops++;
        super.visitDoWhileLoop(tree, none);
        loops--;
        return null;
    }

    @Override
    public Void visitThrow(ThrowTree tree, Void none) {
        broke("6, throw", tree);
        return super.visitThrow(tree, none);
    }

    @Override
    public Void visitTry(TryTree tree, Void none) {
        broke("6, try", tree);
        return super.visitTry(tree, none);
    }

    @Override
    public Void visitSynchronized(SynchronizedTree tree, Void none) {
        broke("6, synchronized", tree);
        return super.visitSynchronized(tree, none);
    }

    @Override
    public Void visitAssert(AssertTree tree, Void none) {
        broke("6, assert", tree);
        return super.visitAssert(tree, none);
    }

    @Override
    public Void visitLambdaExpression(LambdaExpressionTree tree, Void none) {
        broke("2, a lambda", tree);
        return super.visitLambdaExpression(tree, none);
    }

    @Override
    public Void visitMemberReference(MemberReferenceTree tree, Void none) {
        broke("2, a method reference", tree);
        return super.visitMemberReference(tree, none);
    }
}
