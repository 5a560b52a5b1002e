import com.sun.source.tree.AssignmentTree;
import com.sun.source.tree.ClassTree;
import com.sun.source.tree.CompilationUnitTree;
import com.sun.source.tree.LambdaExpressionTree;
import com.sun.source.tree.LineMap;
import com.sun.source.tree.MemberReferenceTree;
import com.sun.source.tree.MethodInvocationTree;
import com.sun.source.tree.MethodTree;
import com.sun.source.tree.NewArrayTree;
import com.sun.source.tree.NewClassTree;
import com.sun.source.tree.Tree;
import com.sun.source.tree.TryTree;
import com.sun.source.tree.TypeCastTree;
import com.sun.source.tree.VariableTree;
import com.sun.source.tree.WhileLoopTree;
import com.sun.source.util.JavacTask;
import com.sun.source.util.SourcePositions;
import com.sun.source.util.TreePath;
import com.sun.source.util.TreePathScanner;
import com.sun.source.util.Trees;
import java.io.IOException;
import java.nio.file.Path;
import java.util.HashMap;
import java.util.HashSet;
import java.util.List;
import java.util.Map;
import java.util.Set;
import javax.lang.model.element.Element;
import javax.lang.model.element.ElementKind;
import javax.tools.JavaCompiler;
import javax.tools.StandardJavaFileManager;
import javax.tools.ToolProvider;

/** The class keeps to the rules of LANGUAGE.md, as far as the compiler's own trees show them. */
public final class LanguageTest extends TreePathScanner<Void, Void> {
    private static final Path SOURCE = Path.of("src/main/java/Seatrush.java");
    private static final Set<String> LIBRARY = Set.of("Math.min", "Math.max", "Math.abs", "Integer.bitCount");
    private static final Set<String> EXCEPTIONS = Set.of("IllegalStateException", "IllegalArgumentException",
        "IndexOutOfBoundsException", "ArithmeticException", "UnsupportedOperationException", "NoSuchElementException");
    private static final int DEEPEST = 8;
    private static final int LONGEST = 60;
    private static final int MOST_PARAMETERS = 7;
    private static final int MOST_CLASSES = 12;

    private final Trees trees;
    private final SourcePositions positions;
    private final CompilationUnitTree unit;
    private final Map<Element, Set<Element>> calls = new HashMap<>();
    private int classes;

    private LanguageTest(Trees trees, CompilationUnitTree unit) {
        this.trees = trees;
        this.unit = unit;
        positions = trees.getSourcePositions();
    }

    public static void main(String[] args) throws IOException {
        JavaCompiler compiler = ToolProvider.getSystemJavaCompiler();
        try (StandardJavaFileManager files = compiler.getStandardFileManager(null, null, null)) {
            JavacTask task = (JavacTask) compiler.getTask(null, files, null, List.of("-proc:none"), null,
                    files.getJavaFileObjects(SOURCE));
            CompilationUnitTree unit = task.parse().iterator().next();
            task.analyze();
            LanguageTest test = new LanguageTest(Trees.instance(task), unit);
            test.scan(unit, null);
            test.checkCalls();
            expect(test.classes <= MOST_CLASSES, "rule 11: " + test.classes + " classes");
        }
        Script.end();
    }

    private static void expect(boolean holds, String text) {
        if (!holds) {
            Script.fault("not so: " + text);
        }
    }

    private Element element(Tree tree) {
        return trees.getElement(new TreePath(getCurrentPath().getParentPath(), tree));
    }

    private Element method() {
        TreePath path = getCurrentPath();
        while (path != null && path.getLeaf().getKind() != Tree.Kind.METHOD) {
            path = path.getParentPath();
        }
        return path == null ? null : trees.getElement(path);
    }

    private static boolean isOwn(Element element) {
        return element.getEnclosingElement().toString().startsWith("Seatrush");
    }

    @Override
    public Void visitClass(ClassTree tree, Void nothing) {
        classes++;
        return super.visitClass(tree, nothing);
    }

    @Override
    public Void visitMethod(MethodTree tree, Void nothing) {
        LineMap lines = unit.getLineMap();
        long length = lines.getLineNumber(positions.getEndPosition(unit, tree))
                - lines.getLineNumber(positions.getStartPosition(unit, tree)) + 1;
        expect(length <= LONGEST, "rule 11: " + tree.getName() + " has " + length + " lines");
        expect(tree.getParameters().size() <= MOST_PARAMETERS, "rule 11: parameters of " + tree.getName());
        calls.computeIfAbsent(trees.getElement(getCurrentPath()), key -> new HashSet<>());
        return super.visitMethod(tree, nothing);
    }

    @Override
    public Void visitMethodInvocation(MethodInvocationTree tree, Void nothing) {
        Element called = trees.getElement(new TreePath(getCurrentPath(), tree.getMethodSelect()));
        if (isOwn(called)) {
            calls.computeIfAbsent(method(), key -> new HashSet<>()).add(called);
        } else if (called.getKind() != ElementKind.CONSTRUCTOR) {
            String name = called.getEnclosingElement().getSimpleName() + "." + called.getSimpleName();
            expect(LIBRARY.contains(name), "rule 4: " + name);
        }
        return super.visitMethodInvocation(tree, nothing);
    }

    /** Objects are made in constructors alone; what else is made is an exception that is thrown at once. */
    @Override
    public Void visitNewClass(NewClassTree tree, Void nothing) {
        boolean isThrown = getCurrentPath().getParentPath().getLeaf().getKind() == Tree.Kind.THROW;
        boolean isInConstructor = method() != null && method().getKind() == ElementKind.CONSTRUCTOR;
        String name = tree.getIdentifier().toString();
        expect(isThrown != isInConstructor, "rules 6 and 12: where new " + name + " stands");
        expect(!isThrown || EXCEPTIONS.contains(name) && tree.getArguments().isEmpty(), "rule 6: new " + name);
        return super.visitNewClass(tree, nothing);
    }

    @Override
    public Void visitNewArray(NewArrayTree tree, Void nothing) {
        expect(method() == null || method().getKind() == ElementKind.CONSTRUCTOR, "rule 12: an array in " + method());
        return super.visitNewArray(tree, nothing);
    }

    @Override
    public Void visitVariable(VariableTree tree, Void nothing) {
        String type = String.valueOf(tree.getType());
        expect(!type.contains("Object") && !type.equals("var"), "rule 3: " + tree);
        return super.visitVariable(tree, nothing);
    }

    @Override
    public Void visitTypeCast(TypeCastTree tree, Void nothing) {
        expect(Set.of("int", "float", "double").contains(tree.getType().toString()), "rule 6: a cast " + tree);
        return super.visitTypeCast(tree, nothing);
    }

    @Override
    public Void visitTry(TryTree tree, Void nothing) {
        expect(false, "rule 6: try in " + method());
        return super.visitTry(tree, nothing);
    }

    @Override
    public Void visitWhileLoop(WhileLoopTree tree, Void nothing) {
        expect(false, "rule 9: a loop without a counter in " + method());
        return super.visitWhileLoop(tree, nothing);
    }

    @Override
    public Void visitLambdaExpression(LambdaExpressionTree tree, Void nothing) {
        expect(false, "rule 2: a lambda in " + method());
        return super.visitLambdaExpression(tree, nothing);
    }

    @Override
    public Void visitMemberReference(MemberReferenceTree tree, Void nothing) {
        expect(false, "rule 2: a method reference in " + method());
        return super.visitMemberReference(tree, nothing);
    }

    @Override
    public Void visitAssignment(AssignmentTree tree, Void nothing) {
        Element changed = element(tree.getVariable());
        boolean isStatic = changed != null && changed.getModifiers().toString().contains("static");
        expect(!isStatic, "rule 5: " + tree);
        return super.visitAssignment(tree, nothing);
    }

    /** A call of the face counts as one deep. */
    private void checkCalls() {
        expect(!calls.isEmpty(), "no methods are seen");
        for (Element start : calls.keySet()) {
            int depth = depth(start, new HashSet<>());
            expect(depth <= DEEPEST, "rule 11: calls from " + start + " go " + depth + " deep");
        }
    }

    private int depth(Element from, Set<Element> open) {
        if (!open.add(from)) {
            expect(false, "rule 8: " + from + " calls itself");
            return 1;
        }
        int deepest = 0;
        for (Element to : calls.getOrDefault(from, Set.of())) {
            deepest = Math.max(deepest, depth(to, open));
        }
        open.remove(from);
        return deepest + 1;
    }
}
