import com.sun.source.tree.BinaryTree;
import com.sun.source.tree.ClassTree;
import com.sun.source.tree.CompilationUnitTree;
import com.sun.source.tree.CompoundAssignmentTree;
import com.sun.source.tree.DoWhileLoopTree;
import com.sun.source.tree.ExpressionTree;
import com.sun.source.tree.ForLoopTree;
import com.sun.source.tree.MethodInvocationTree;
import com.sun.source.tree.MethodTree;
import com.sun.source.tree.NewArrayTree;
import com.sun.source.tree.NewClassTree;
import com.sun.source.tree.Tree;
import com.sun.source.tree.Tree.Kind;
import com.sun.source.tree.UnaryTree;
import com.sun.source.tree.VariableTree;
import com.sun.source.tree.WhileLoopTree;
import com.sun.source.util.JavacTask;
import com.sun.source.util.TreePath;
import com.sun.source.util.TreePathScanner;
import com.sun.source.util.Trees;
import java.io.IOException;
import java.nio.file.Path;
import java.util.HashMap;
import java.util.List;
import java.util.Map;
import java.util.Set;
import java.util.TreeSet;
import javax.lang.model.element.Element;
import javax.lang.model.element.ElementKind;
import javax.lang.model.element.Modifier;
import javax.lang.model.element.VariableElement;
import javax.lang.model.type.ArrayType;
import javax.lang.model.type.TypeKind;
import javax.lang.model.type.TypeMirror;
import javax.tools.JavaCompiler;
import javax.tools.StandardJavaFileManager;
import javax.tools.ToolProvider;

/** The rules of LANGUAGE.md that can be read off the source, as javac itself understands it. */
final class SourceRules extends TreePathScanner<Void, Void> {
    private static final String OWN = "ConvolutionBench";

    /** Of what rule 4 leaves, what the class has a use for. */
    private static final Set<String> LIBRARY = Set.of("java.lang.Math.max", "java.lang.Math.min", "java.lang.Math.abs",
        "java.lang.Math.floorMod", "java.util.Arrays.fill", "java.lang.System.arraycopy");

    private static final Set<Kind> ON_DOUBLES = Set.of(Kind.PLUS, Kind.MINUS, Kind.MULTIPLY, Kind.DIVIDE, Kind.EQUAL_TO,
        Kind.NOT_EQUAL_TO, Kind.LESS_THAN, Kind.LESS_THAN_EQUAL, Kind.GREATER_THAN, Kind.GREATER_THAN_EQUAL);

    /** What the language has and no part of the class may have, by the rule that leaves it out. */
    private static final Map<Kind, Integer> LEFT_OUT = Map.of(Kind.LAMBDA_EXPRESSION, 2, Kind.MEMBER_REFERENCE, 2,
        Kind.THROW, 6, Kind.TRY, 6, Kind.SYNCHRONIZED, 6, Kind.ASSERT, 6);

    private static final Set<Kind> LOOPS =
        Set.of(Kind.FOR_LOOP, Kind.ENHANCED_FOR_LOOP, Kind.WHILE_LOOP, Kind.DO_WHILE_LOOP);

    /** The calls that give a place a new row; nothing else makes anything once an object stands. */
    private static final Set<String> MAKERS = Set.of("row", "inverse", "carry");

    private final Trees trees;
    private final CompilationUnitTree unit;
    private final Map<String, Set<String>> calls = new HashMap<>();
    private int classes = 0;
    private int loops = 0;
    private Element method = null;

    private SourceRules(Trees trees, CompilationUnitTree unit) {
        this.trees = trees;
        this.unit = unit;
    }

    static void look(Path source) throws IOException {
        JavaCompiler compiler = ToolProvider.getSystemJavaCompiler();
        try (StandardJavaFileManager files = compiler.getStandardFileManager(null, null, null)) {
            JavacTask task = (JavacTask) compiler.getTask(null, files, null, List.of("-proc:none", "--release", "17"), null,
                files.getJavaFileObjects(source));
            CompilationUnitTree unit = task.parse().iterator().next();
            task.analyze();
            SourceRules rules = new SourceRules(Trees.instance(task), unit);
            rules.scan(unit, null);
            Check.holds("rule 1: there is no package line", unit.getPackageName() == null);
            Check.holds("rule 11: " + rules.classes + " classes", rules.classes > 0 && rules.classes <= 12);
            Check.holds("the calls among methods were read", rules.calls.size() > 50);
            for (String name : rules.calls.keySet()) {
                rules.depthOf(name, 1);
            }
        }
    }

    private void rule(int number, Tree where, boolean held) {
        long position = trees.getSourcePositions().getStartPosition(unit, where);
        String line = position < 0 ? "?" : String.valueOf(unit.getLineMap().getLineNumber(position));
        String what = where.toString().strip().lines().findFirst().orElse("");
        Check.holds("rule " + number + " is broken in line " + line + ": " + what, held);
    }

    /** A way of calls that comes back to itself has no end, so it is found here, too. */
    private void depthOf(String name, int depth) {
        if (depth > 8) {
            Check.holds("rules 8, 11: calls go more than eight deep, to " + name, false);
            return;
        }
        for (String called : calls.getOrDefault(name, Set.of())) {
            depthOf(called, depth + 1);
        }
    }

    private static boolean isFloating(TypeMirror type) {
        return type != null && (type.getKind() == TypeKind.DOUBLE || type.getKind() == TypeKind.FLOAT);
    }

    private TypeMirror typeOf(Tree part) {
        return trees.getTypeMirror(new TreePath(getCurrentPath(), part));
    }

    private Element elementOf(Tree part) {
        return trees.getElement(new TreePath(getCurrentPath(), part));
    }

    private static String nameOf(Element called) {
        return called.getEnclosingElement() + "." + called;
    }

    // ---- classes and fields

    @Override
    public Void visitClass(ClassTree tree, Void nothing) {
        classes++;
        Tree around = getCurrentPath().getParentPath().getLeaf();
        boolean isInside = around.getKind() == Kind.CLASS;
        rule(2, tree, isInside || around == unit);
        rule(1, tree, tree.getModifiers().getFlags().contains(isInside ? Modifier.STATIC : Modifier.PUBLIC));
        long held = tree.getMembers().stream()
            .filter(member -> member instanceof VariableTree field && !field.getModifiers().getFlags().contains(Modifier.STATIC))
            .count();
        Check.holds("rule 11: the fields of " + tree.getSimpleName(), held <= 20);
        rule(2, tree, tree.getMembers().stream().noneMatch(member -> member.getKind() == Kind.BLOCK));
        return super.visitClass(tree, nothing);
    }

    @Override
    public Void visitVariable(VariableTree tree, Void nothing) {
        Element made = trees.getElement(getCurrentPath());
        rule(3, tree, isAllowed(made.asType()));
        if (made.getKind() == ElementKind.FIELD && made.getModifiers().contains(Modifier.STATIC)) {
            rule(5, tree, ((VariableElement) made).getConstantValue() != null);
        }
        return super.visitVariable(tree, nothing);
    }

    private static boolean isAllowed(TypeMirror type) {
        int dimensions = 0;
        TypeMirror one = type;
        while (one.getKind() == TypeKind.ARRAY) {
            one = ((ArrayType) one).getComponentType();
            dimensions++;
        }
        return one.getKind().isPrimitive() ? dimensions <= 2 : dimensions <= 1 && one.toString().startsWith(OWN);
    }

    // ---- methods and what they call

    @Override
    public Void visitMethod(MethodTree tree, Void nothing) {
        method = trees.getElement(getCurrentPath());
        rule(11, tree, tree.getParameters().size() <= 7 && linesOf(tree) <= 60);
        rule(6, tree, tree.getThrows().isEmpty() && !tree.getModifiers().getFlags().contains(Modifier.SYNCHRONIZED));
        super.visitMethod(tree, nothing);
        method = null;
        return null;
    }

    private long linesOf(Tree tree) {
        long first = trees.getSourcePositions().getStartPosition(unit, tree);
        long last = trees.getSourcePositions().getEndPosition(unit, tree);
        return last < 0 ? 0 : unit.getLineMap().getLineNumber(last) - unit.getLineMap().getLineNumber(first) + 1;
    }

    @Override
    public Void visitMethodInvocation(MethodInvocationTree tree, Void nothing) {
        Element called = elementOf(tree.getMethodSelect());
        if (called.getKind() == ElementKind.METHOD) {
            rule(12, tree, method == null || method.getKind() != ElementKind.CONSTRUCTOR);
            if (nameOf(called).startsWith(OWN)) {
                keepCall(called);
            } else {
                rule(4, tree, LIBRARY.contains(called.getEnclosingElement() + "." + called.getSimpleName()));
                rule(4, tree, tree.getArguments().stream().noneMatch(argument -> isFloating(typeOf(argument))));
            }
        }
        return super.visitMethodInvocation(tree, nothing);
    }

    private void keepCall(Element called) {
        if (method != null) {
            calls.computeIfAbsent(nameOf(method), key -> new TreeSet<>()).add(nameOf(called));
        }
    }

    @Override
    public Void visitNewClass(NewClassTree tree, Void nothing) {
        rule(2, tree, tree.getClassBody() == null);
        rule(4, tree, typeOf(tree).toString().startsWith(OWN));
        keepCall(trees.getElement(getCurrentPath()));
        made(tree);
        return super.visitNewClass(tree, nothing);
    }

    @Override
    public Void visitNewArray(NewArrayTree tree, Void nothing) {
        made(tree);
        return super.visitNewArray(tree, nothing);
    }

    private void made(Tree tree) {
        rule(12, tree, loops == 0);
        boolean byConstructor = method == null || method.getKind() == ElementKind.CONSTRUCTOR;
        rule(12, tree, byConstructor || MAKERS.contains(method.getSimpleName().toString()));
    }

    // ---- what is done inside methods

    @Override
    public Void scan(Tree tree, Void nothing) {
        Kind kind = tree == null ? Kind.OTHER : tree.getKind();
        if (LEFT_OUT.containsKey(kind)) {
            rule(LEFT_OUT.get(kind), tree, false);
        }
        int around = loops;
        loops += LOOPS.contains(kind) ? 1 : 0;
        super.scan(tree, nothing);
        loops = around;
        return null;
    }

    @Override
    public Void visitForLoop(ForLoopTree tree, Void nothing) {
        rule(9, tree, tree.getCondition() != null && tree.getCondition().getKind() != Kind.BOOLEAN_LITERAL);
        return super.visitForLoop(tree, nothing);
    }

    @Override
    public Void visitWhileLoop(WhileLoopTree tree, Void nothing) {
        rule(9, tree, isBounded(tree.getCondition()));
        return super.visitWhileLoop(tree, nothing);
    }

    @Override
    public Void visitDoWhileLoop(DoWhileLoopTree tree, Void nothing) {
        rule(9, tree, isBounded(tree.getCondition()));
        return super.visitDoWhileLoop(tree, nothing);
    }

    /** A loop without a counter of its own tells its bound ahead of what else ends it. */
    private static boolean isBounded(ExpressionTree condition) {
        return condition.toString().matches("\\(\\w+ < \\w+ && .*\\)");
    }

    @Override
    public Void visitBinary(BinaryTree tree, Void nothing) {
        if (isFloating(typeOf(tree.getLeftOperand())) || isFloating(typeOf(tree.getRightOperand()))) {
            rule(3, tree, ON_DOUBLES.contains(tree.getKind()));
        }
        return super.visitBinary(tree, nothing);
    }

    @Override
    public Void visitUnary(UnaryTree tree, Void nothing) {
        boolean isLiteral = tree.getExpression().getKind() == Kind.DOUBLE_LITERAL;
        rule(3, tree, isLiteral || !isFloating(typeOf(tree.getExpression())));
        return super.visitUnary(tree, nothing);
    }

    @Override
    public Void visitCompoundAssignment(CompoundAssignmentTree tree, Void nothing) {
        rule(3, tree, !isFloating(typeOf(tree.getVariable())));
        return super.visitCompoundAssignment(tree, nothing);
    }
}
