import com.sun.source.tree.BinaryTree;
import com.sun.source.tree.ClassTree;
import com.sun.source.tree.CompilationUnitTree;
import com.sun.source.tree.DoWhileLoopTree;
import com.sun.source.tree.ExpressionTree;
import com.sun.source.tree.ForLoopTree;
import com.sun.source.tree.MethodInvocationTree;
import com.sun.source.tree.MethodTree;
import com.sun.source.tree.NewClassTree;
import com.sun.source.tree.Tree;
import com.sun.source.tree.VariableTree;
import com.sun.source.tree.WhileLoopTree;
import com.sun.source.util.JavacTask;
import com.sun.source.util.TreePath;
import com.sun.source.util.TreePathScanner;
import com.sun.source.util.Trees;
import java.io.IOException;
import java.nio.file.Path;
import java.util.ArrayList;
import java.util.EnumSet;
import java.util.LinkedHashMap;
import java.util.LinkedHashSet;
import java.util.List;
import java.util.Map;
import java.util.Set;
import javax.lang.model.element.ExecutableElement;
import javax.lang.model.element.TypeElement;
import javax.lang.model.element.VariableElement;
import javax.lang.model.type.TypeMirror;
import javax.tools.JavaCompiler;
import javax.tools.StandardJavaFileManager;
import javax.tools.ToolProvider;

/** What stands in a source file, as the compiler understands it: its classes, methods, calls, types and loops. */
final class Reading extends TreePathScanner<Void, Void> {
    /** A comparison or a sum: its kind and the types of its two sides. */
    record Pair(Tree.Kind kind, String left, String right) {
    }

    final List<TypeElement> classes = new ArrayList<>();
    final List<VariableElement> variables = new ArrayList<>();
    final Map<ExecutableElement, Long> lengths = new LinkedHashMap<>();
    final Map<ExecutableElement, Set<ExecutableElement>> calls = new LinkedHashMap<>();
    final Set<String> calledElsewhere = new LinkedHashSet<>();
    final Set<String> typesMade = new LinkedHashSet<>();
    final Set<Tree.Kind> kinds = EnumSet.noneOf(Tree.Kind.class);
    final List<Pair> pairs = new ArrayList<>();
    final List<String> loopConditions = new ArrayList<>();
    final CompilationUnitTree unit;
    int initialisers = 0;

    private final Trees trees;
    private ExecutableElement within = null;

    private Reading(Trees trees, CompilationUnitTree unit) {
        this.trees = trees;
        this.unit = unit;
    }

    static Reading of(Path source) throws IOException {
        JavaCompiler compiler = ToolProvider.getSystemJavaCompiler();
        try (StandardJavaFileManager files = compiler.getStandardFileManager(null, null, null)) {
            JavacTask task = (JavacTask) compiler.getTask(null, files, null, List.of("--release", "17", "-proc:none"),
                null, files.getJavaFileObjects(source));
            CompilationUnitTree unit = task.parse().iterator().next();
            task.analyze();
            Reading reading = new Reading(Trees.instance(task), unit);
            reading.scan(unit, null);
            return reading;
        }
    }

    static boolean isOwn(String type) {
        return type.equals("MarkSheets") || type.startsWith("MarkSheets.");
    }

    @Override
    public Void scan(Tree tree, Void nothing) {
        if (tree != null) {
            kinds.add(tree.getKind());
        }
        return super.scan(tree, nothing);
    }

    @Override
    public Void visitClass(ClassTree tree, Void nothing) {
        classes.add((TypeElement) trees.getElement(getCurrentPath()));
        for (Tree member : tree.getMembers()) {
            initialisers += member.getKind() == Tree.Kind.BLOCK ? 1 : 0;
        }
        return super.visitClass(tree, nothing);
    }

    @Override
    public Void visitMethod(MethodTree tree, Void nothing) {
        within = (ExecutableElement) trees.getElement(getCurrentPath());
        calls.put(within, new LinkedHashSet<>());
        lengths.put(within, lineOfEnd(tree) - lineOfStart(tree) + 1);
        super.visitMethod(tree, nothing);
        within = null;
        return null;
    }

    private long lineOfStart(Tree tree) {
        return unit.getLineMap().getLineNumber(trees.getSourcePositions().getStartPosition(unit, tree));
    }

    /** A constructor that the compiler adds has no end of its own. */
    private long lineOfEnd(Tree tree) {
        long end = trees.getSourcePositions().getEndPosition(unit, tree);
        return end < 0 ? lineOfStart(tree) : unit.getLineMap().getLineNumber(end);
    }

    @Override
    public Void visitVariable(VariableTree tree, Void nothing) {
        variables.add((VariableElement) trees.getElement(getCurrentPath()));
        return super.visitVariable(tree, nothing);
    }

    @Override
    public Void visitMethodInvocation(MethodInvocationTree tree, Void nothing) {
        called((ExecutableElement) trees.getElement(getCurrentPath()));
        return super.visitMethodInvocation(tree, nothing);
    }

    @Override
    public Void visitNewClass(NewClassTree tree, Void nothing) {
        ExecutableElement constructor = (ExecutableElement) trees.getElement(getCurrentPath());
        typesMade.add(constructor.getEnclosingElement().toString());
        called(constructor);
        return super.visitNewClass(tree, nothing);
    }

    /** What a field's initialiser calls is called by no method; only what lies elsewhere counts then. */
    private void called(ExecutableElement method) {
        String owner = method.getEnclosingElement().toString();
        if (!isOwn(owner)) {
            calledElsewhere.add(owner + "." + method.getSimpleName());
        } else if (within != null) {
            calls.get(within).add(method);
        }
    }

    @Override
    public Void visitBinary(BinaryTree tree, Void nothing) {
        pairs.add(new Pair(tree.getKind(), typeOf(tree.getLeftOperand()), typeOf(tree.getRightOperand())));
        return super.visitBinary(tree, nothing);
    }

    private String typeOf(ExpressionTree tree) {
        TypeMirror type = trees.getTypeMirror(new TreePath(getCurrentPath(), tree));
        return String.valueOf(type);
    }

    @Override
    public Void visitForLoop(ForLoopTree tree, Void nothing) {
        loopConditions.add(String.valueOf(tree.getCondition()));
        return super.visitForLoop(tree, nothing);
    }

    @Override
    public Void visitWhileLoop(WhileLoopTree tree, Void nothing) {
        loopConditions.add(tree.getCondition().toString());
        return super.visitWhileLoop(tree, nothing);
    }

    @Override
    public Void visitDoWhileLoop(DoWhileLoopTree tree, Void nothing) {
        loopConditions.add(tree.getCondition().toString());
        return super.visitDoWhileLoop(tree, nothing);
    }
}
