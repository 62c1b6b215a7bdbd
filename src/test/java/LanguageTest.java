import com.sun.source.tree.AssertTree;
import com.sun.source.tree.BinaryTree;
import com.sun.source.tree.BlockTree;
import com.sun.source.tree.CatchTree;
import com.sun.source.tree.ClassTree;
import com.sun.source.tree.CompilationUnitTree;
import com.sun.source.tree.CompoundAssignmentTree;
import com.sun.source.tree.ExpressionTree;
import com.sun.source.tree.ImportTree;
import com.sun.source.tree.LambdaExpressionTree;
import com.sun.source.tree.LiteralTree;
import com.sun.source.tree.MemberReferenceTree;
import com.sun.source.tree.MethodInvocationTree;
import com.sun.source.tree.MethodTree;
import com.sun.source.tree.NewClassTree;
import com.sun.source.tree.SynchronizedTree;
import com.sun.source.tree.ThrowTree;
import com.sun.source.tree.Tree;
import com.sun.source.tree.TypeCastTree;
import com.sun.source.tree.VariableTree;
import com.sun.source.util.JavacTask;
import com.sun.source.util.SourcePositions;
import com.sun.source.util.TreePath;
import com.sun.source.util.TreePathScanner;
import com.sun.source.util.Trees;
import java.io.IOException;
import java.nio.charset.StandardCharsets;
import java.nio.file.Files;
import java.nio.file.Path;
import java.util.HashMap;
import java.util.HashSet;
import java.util.List;
import java.util.Map;
import java.util.Set;
import javax.lang.model.element.Element;
import javax.lang.model.element.ElementKind;
import javax.lang.model.element.Modifier;
import javax.lang.model.element.VariableElement;
import javax.lang.model.type.TypeKind;
import javax.lang.model.type.TypeMirror;
import javax.tools.JavaCompiler;
import javax.tools.StandardJavaFileManager;
import javax.tools.ToolProvider;

/** The rules of LANGUAGE.md that the class's own text shows, by the compiler's tree of it. */
public final class LanguageTest extends TreePathScanner<Void, Void> {
    private static final Check CHECK = new Check();
    private static final Path SOURCE = Path.of("src/main/java/SkiShots.java");
    private static final int MOST_LINES = 60;
    private static final int MOST_DEPTH = 8;
    private static final Set<String> IMPORTS = Set.of("java.util.NoSuchElementException", "java.util.ArrayList",
            "java.util.List", "java.util.Arrays", "java.util.Iterator");
    private static final Set<String> LIBRARY = Set.of("java.lang.Math.max", "java.lang.Math.min",
            "java.lang.Math.abs", "java.lang.Integer.bitCount", "java.lang.Integer.compare",
            "java.lang.String.length", "java.lang.String.charAt", "java.lang.String.isEmpty",
            "java.lang.System.arraycopy", "java.util.Arrays.fill", "java.util.Arrays.copyOf");
    private static final Set<String> EXCEPTIONS = Set.of("IllegalStateException", "IllegalArgumentException",
            "IndexOutOfBoundsException", "ArithmeticException", "UnsupportedOperationException",
            "NoSuchElementException", "RuntimeException");

    private final CompilationUnitTree unit;
    private final Trees trees;
    private final SourcePositions positions;
    private final Map<Element, Set<Element>> calls = new HashMap<>();
    private Element inside;

    private LanguageTest(CompilationUnitTree unit, JavacTask task) {
        this.unit = unit;
        trees = Trees.instance(task);
        positions = trees.getSourcePositions();
    }

    public static void main(String[] args) throws IOException {
        CHECK.that("the file's signs are 1 to 127", Files.readString(SOURCE).chars().allMatch(c -> c > 0 && c < 128));
        JavaCompiler compiler = ToolProvider.getSystemJavaCompiler();
        try (StandardJavaFileManager files = compiler.getStandardFileManager(null, null, StandardCharsets.US_ASCII)) {
            List<String> options = List.of("-proc:none");
            JavacTask task = (JavacTask) compiler.getTask(null, files, null, options, null,
                    files.getJavaFileObjects(SOURCE));
            CompilationUnitTree unit = task.parse().iterator().next();
            task.analyze();
            LanguageTest test = new LanguageTest(unit, task);
            test.scan(unit, null);
            test.depths();
        }
        CHECK.end();
    }

    private void depths() {
        for (Element method : calls.keySet()) {
            int deep = depth(method, 0);
            CHECK.that(method + " calls " + deep + " deep, eight at most", deep <= MOST_DEPTH);
        }
    }

    /** A call that comes round to itself shows as a depth beyond every bound. */
    private int depth(Element method, int open) {
        int deepest = 0;
        for (Element called : calls.getOrDefault(method, Set.of())) {
            deepest = Math.max(deepest, open > MOST_DEPTH ? MOST_DEPTH : depth(called, open + 1));
        }
        return deepest + 1;
    }

    private void ban(Tree tree, String rule) {
        CHECK.that("line " + line(positions.getStartPosition(unit, tree)) + ": " + rule, false);
    }

    private long line(long position) {
        return unit.getLineMap().getLineNumber(position);
    }

    private Element elementOf(Tree tree) {
        return trees.getElement(new TreePath(getCurrentPath(), tree));
    }

    private TypeMirror typeOf(Tree tree) {
        return trees.getTypeMirror(new TreePath(getCurrentPath(), tree));
    }

    private boolean isOwn(Element element) {
        return element.toString().equals("SkiShots") || element.toString().startsWith("SkiShots.");
    }

    private boolean isConstant(Tree tree) {
        Element element = elementOf(tree);
        return tree instanceof LiteralTree
                || element instanceof VariableElement v && v.getConstantValue() != null;
    }

    @Override
    public Void visitCompilationUnit(CompilationUnitTree tree, Void none) {
        CHECK.that("no package line", tree.getPackage() == null);
        CHECK.due("classes beside one another", tree.getTypeDecls().size(), 1);
        return super.visitCompilationUnit(tree, none);
    }

    @Override
    public Void visitImport(ImportTree tree, Void none) {
        CHECK.that(tree + " is of rule 4", IMPORTS.contains(tree.getQualifiedIdentifier().toString()));
        return super.visitImport(tree, none);
    }

    @Override
    public Void visitClass(ClassTree tree, Void none) {
        int fields = 0;
        for (Tree member : tree.getMembers()) {
            boolean field = member instanceof VariableTree v && !v.getModifiers().getFlags().contains(Modifier.STATIC);
            fields += field ? 1 : 0;
            CHECK.that(tree.getSimpleName() + " has no initialiser block", !(member instanceof BlockTree));
        }
        CHECK.that(tree.getSimpleName() + " has twenty fields at most", fields <= 20);
        return super.visitClass(tree, none);
    }

    @Override
    public Void visitVariable(VariableTree tree, Void none) {
        Element element = trees.getElement(getCurrentPath());
        if (element.getModifiers().contains(Modifier.STATIC)) {
            CHECK.that(element + " is a constant", element.getModifiers().contains(Modifier.FINAL)
                    && element instanceof VariableElement v && v.getConstantValue() != null);
        }
        return super.visitVariable(tree, none);
    }

    @Override
    public Void visitMethod(MethodTree tree, Void none) {
        long from = positions.getStartPosition(unit, tree);
        long lines = from < 0 ? 0 : line(positions.getEndPosition(unit, tree)) - line(from) + 1;
        CHECK.that(tree.getName() + " has " + lines + " lines, sixty at most", lines <= MOST_LINES);
        CHECK.that(tree.getName() + " takes seven at most", tree.getParameters().size() <= 7);
        inside = trees.getElement(getCurrentPath());
        calls.put(inside, new HashSet<>());
        return super.visitMethod(tree, none);
    }

    @Override
    public Void visitMethodInvocation(MethodInvocationTree tree, Void none) {
        Element called = trees.getElement(getCurrentPath());
        Element owner = called.getEnclosingElement();
        if (called.getKind() == ElementKind.METHOD) {
            CHECK.that(owner + "." + called.getSimpleName() + " is own or of rule 4",
                    isOwn(owner) || LIBRARY.contains(owner + "." + called.getSimpleName()));
        }
        if (isOwn(owner)) {
            calls.get(inside).add(called);
        }
        return super.visitMethodInvocation(tree, none);
    }

    @Override
    public Void visitNewClass(NewClassTree tree, Void none) {
        Element maker = trees.getElement(getCurrentPath());
        Element made = maker.getEnclosingElement();
        boolean thrown = getCurrentPath().getParentPath().getLeaf() instanceof ThrowTree;
        CHECK.that("new " + made + " is own or thrown", isOwn(made) || thrown);
        if (isOwn(made)) {
            calls.get(inside).add(maker);
        }
        return super.visitNewClass(tree, none);
    }

    @Override
    public Void visitThrow(ThrowTree tree, Void none) {
        boolean written = tree.getExpression() instanceof NewClassTree n
                && EXCEPTIONS.contains(n.getIdentifier().toString()) && n.getArguments().size() <= 1
                && n.getArguments().stream().allMatch(a -> a instanceof LiteralTree);
        CHECK.that(tree + " throws as rule 6 says", written && inside.getKind() != ElementKind.CONSTRUCTOR);
        return super.visitThrow(tree, none);
    }

    @Override
    public Void visitBinary(BinaryTree tree, Void none) {
        look(tree, tree.getKind(), tree.getLeftOperand(), tree.getRightOperand());
        return super.visitBinary(tree, none);
    }

    @Override
    public Void visitCompoundAssignment(CompoundAssignmentTree tree, Void none) {
        look(tree, tree.getKind(), tree.getVariable(), tree.getExpression());
        return super.visitCompoundAssignment(tree, none);
    }

    private void look(Tree tree, Tree.Kind kind, ExpressionTree left, ExpressionTree right) {
        boolean divides = Set.of(Tree.Kind.DIVIDE, Tree.Kind.REMAINDER, Tree.Kind.DIVIDE_ASSIGNMENT,
                Tree.Kind.REMAINDER_ASSIGNMENT).contains(kind);
        if (divides && !isConstant(right)) {
            ban(tree, "a divisor that is no constant");
        }
        if (isText(left) || isText(right)) {
            ban(tree, "a text joined or compared by a sign");
        }
    }

    private boolean isText(Tree tree) {
        return typeOf(tree) != null && typeOf(tree).toString().equals("java.lang.String");
    }

    @Override
    public Void visitTypeCast(TypeCastTree tree, Void none) {
        TypeMirror type = typeOf(tree.getType());
        CHECK.that(tree + " casts numbers alone", type.getKind().isPrimitive() && type.getKind() != TypeKind.BOOLEAN);
        return super.visitTypeCast(tree, none);
    }

    @Override
    public Void visitCatch(CatchTree tree, Void none) {
        ban(tree, "nothing is thrown that a method here should catch");
        return null;
    }

    @Override
    public Void visitLambdaExpression(LambdaExpressionTree tree, Void none) {
        ban(tree, "a lambda");
        return null;
    }

    @Override
    public Void visitMemberReference(MemberReferenceTree tree, Void none) {
        ban(tree, "a method reference");
        return null;
    }

    @Override
    public Void visitAssert(AssertTree tree, Void none) {
        ban(tree, "assert");
        return null;
    }

    @Override
    public Void visitSynchronized(SynchronizedTree tree, Void none) {
        ban(tree, "synchronized");
        return null;
    }
}
