import com.sun.source.tree.ArrayTypeTree;
import com.sun.source.tree.AssertTree;
import com.sun.source.tree.BlockTree;
import com.sun.source.tree.CatchTree;
import com.sun.source.tree.ClassTree;
import com.sun.source.tree.CompilationUnitTree;
import com.sun.source.tree.DoWhileLoopTree;
import com.sun.source.tree.EnhancedForLoopTree;
import com.sun.source.tree.ForLoopTree;
import com.sun.source.tree.ImportTree;
import com.sun.source.tree.LambdaExpressionTree;
import com.sun.source.tree.LiteralTree;
import com.sun.source.tree.MemberReferenceTree;
import com.sun.source.tree.MethodInvocationTree;
import com.sun.source.tree.MethodTree;
import com.sun.source.tree.NewArrayTree;
import com.sun.source.tree.NewClassTree;
import com.sun.source.tree.PrimitiveTypeTree;
import com.sun.source.tree.SynchronizedTree;
import com.sun.source.tree.ThrowTree;
import com.sun.source.tree.Tree;
import com.sun.source.tree.TryTree;
import com.sun.source.tree.TypeCastTree;
import com.sun.source.tree.VariableTree;
import com.sun.source.tree.WhileLoopTree;
import com.sun.source.util.JavacTask;
import com.sun.source.util.SourcePositions;
import com.sun.source.util.TreePath;
import com.sun.source.util.TreePathScanner;
import com.sun.source.util.Trees;
import java.nio.file.Path;
import java.util.ArrayList;
import java.util.HashMap;
import java.util.List;
import java.util.Map;
import java.util.Set;
import java.util.TreeSet;
import javax.lang.model.element.Element;
import javax.lang.model.element.ExecutableElement;
import javax.lang.model.element.Modifier;
import javax.lang.model.type.TypeKind;
import javax.tools.JavaCompiler;
import javax.tools.StandardJavaFileManager;
import javax.tools.ToolProvider;

/** The rules of LANGUAGE.md that can be read off the source: what stands in it, how long and how deep it is. */
public final class RulesTest extends TreePathScanner<Void, String> {
    private static final Set<String> LIBRARY = Set.of("java.lang.Math.max", "java.lang.Math.min", "java.lang.Math.abs",
        "java.lang.Math.floorMod", "java.lang.Math.floorDiv", "java.lang.System.arraycopy", "java.lang.Object.<init>");

    private final Trees trees;
    private final CompilationUnitTree unit;
    private final Map<String, Set<String>> calls = new HashMap<>();
    private int classes;

    private RulesTest(JavacTask task, CompilationUnitTree unit) {
        this.trees = Trees.instance(task);
        this.unit = unit;
    }

    public static void main(String[] args) throws Exception {
        JavaCompiler compiler = ToolProvider.getSystemJavaCompiler();
        try (StandardJavaFileManager files = compiler.getStandardFileManager(null, null, null)) {
            JavacTask task = (JavacTask) compiler.getTask(null, files, null, List.of("-proc:none"), null,
                files.getJavaFileObjects(Path.of("src/main/java/LoopGround.java")));
            CompilationUnitTree unit = task.parse().iterator().next();
            task.analyze();
            RulesTest test = new RulesTest(task, unit);
            test.scan(unit, "");
            Check.due("classes: " + test.classes, test.classes <= 12, true);
            test.depths();
        }
        Check.finish(RulesTest.class);
    }

    private long line(Tree tree, boolean end) {
        SourcePositions at = trees.getSourcePositions();
        long place = end ? at.getEndPosition(unit, tree) : at.getStartPosition(unit, tree);
        return unit.getLineMap().getLineNumber(place);
    }

    private Void never(Tree tree) {
        Check.due("no " + tree.getKind() + ", in line " + line(tree, false), false, true);
        return null;
    }

    @Override
    public Void visitImport(ImportTree tree, String in) {
        return never(tree);
    }

    @Override
    public Void visitThrow(ThrowTree tree, String in) {
        return never(tree);
    }

    @Override
    public Void visitTry(TryTree tree, String in) {
        return never(tree);
    }

    @Override
    public Void visitCatch(CatchTree tree, String in) {
        return never(tree);
    }

    @Override
    public Void visitSynchronized(SynchronizedTree tree, String in) {
        return never(tree);
    }

    @Override
    public Void visitAssert(AssertTree tree, String in) {
        return never(tree);
    }

    @Override
    public Void visitLambdaExpression(LambdaExpressionTree tree, String in) {
        return never(tree);
    }

    @Override
    public Void visitMemberReference(MemberReferenceTree tree, String in) {
        return never(tree);
    }

    @Override
    public Void visitWhileLoop(WhileLoopTree tree, String in) {
        // None is needed: a loop here counts against a bound that stands in its first line.
        return never(tree);
    }

    @Override
    public Void visitDoWhileLoop(DoWhileLoopTree tree, String in) {
        return never(tree);
    }

    @Override
    public Void visitForLoop(ForLoopTree tree, String in) {
        Check.due("a loop's bound, in line " + line(tree, false), tree.getCondition() != null, true);
        Check.due("a loop's step, in line " + line(tree, false), tree.getUpdate().size(), 1);
        Check.due("a loop's beginning, in line " + line(tree, false), tree.getInitializer().size(), 1);
        return super.visitForLoop(tree, in);
    }

    @Override
    public Void visitEnhancedForLoop(EnhancedForLoopTree tree, String in) {
        return never(tree);
    }

    @Override
    public Void visitBlock(BlockTree tree, String in) {
        Check.due("no static block, in line " + line(tree, false), tree.isStatic(), false);
        return super.visitBlock(tree, in);
    }

    @Override
    public Void visitLiteral(LiteralTree tree, String in) {
        // No text is held or joined: words of a GROUND are numbers.
        Check.due("no text, in line " + line(tree, false), tree.getKind() == Tree.Kind.STRING_LITERAL, false);
        return super.visitLiteral(tree, in);
    }

    @Override
    public Void visitTypeCast(TypeCastTree tree, String in) {
        Check.due("casts to numbers alone, in line " + line(tree, false), tree.getType() instanceof PrimitiveTypeTree, true);
        return super.visitTypeCast(tree, in);
    }

    @Override
    public Void visitPrimitiveType(PrimitiveTypeTree tree, String in) {
        TypeKind kind = tree.getPrimitiveTypeKind();
        Check.due("no " + kind + ", in line " + line(tree, false), kind == TypeKind.FLOAT || kind == TypeKind.DOUBLE, false);
        return super.visitPrimitiveType(tree, in);
    }

    @Override
    public Void visitNewArray(NewArrayTree tree, String in) {
        Check.due("a new row in " + in, in.contains(".") && !in.endsWith("<init>"), false);
        Check.due("at most two dimensions, in " + in, tree.getDimensions().size() <= 2, true);
        return super.visitNewArray(tree, in);
    }

    @Override
    public Void visitVariable(VariableTree tree, String in) {
        Tree type = tree.getType();
        int dimensions = 0;
        for (; type instanceof ArrayTypeTree array && dimensions < 9; dimensions++) {
            type = array.getType();
        }
        boolean number = type instanceof PrimitiveTypeTree;
        Check.due("dimensions of " + tree.getName(), dimensions <= (number ? 2 : 1), true);
        Check.due("a number or a class of its own: " + tree.getName() + " " + type,
            number || Set.of("Told", "Reader", "Tracer", "Road", "Shortener", "Mover", "Table", "Counter", "Acts", "Drawing")
                .contains(type.toString()), true);
        if (tree.getModifiers().getFlags().contains(Modifier.STATIC)) {
            Check.due("a static number: " + tree.getName(), number && dimensions == 0, true);
        }
        return super.visitVariable(tree, in);
    }

    @Override
    public Void visitClass(ClassTree tree, String in) {
        classes++;
        String name = tree.getSimpleName().toString();
        Set<Modifier> modifiers = tree.getModifiers().getFlags();
        Check.due("a name: " + name, name.isEmpty(), false);
        Check.due("static or the face: " + name, modifiers.contains(Modifier.STATIC) || in.isEmpty(), true);
        int fields = 0;
        for (Tree member : tree.getMembers()) {
            if (member instanceof VariableTree field) {
                boolean fixed = field.getModifiers().getFlags().contains(Modifier.STATIC);
                boolean last = field.getModifiers().getFlags().contains(Modifier.FINAL);
                fields += fixed ? 0 : 1;
                Check.due("static fields are final: " + field.getName(), !fixed || last, true);
            }
        }
        Check.due("fields of " + name + ": " + fields, fields <= 20, true);
        return super.visitClass(tree, name);
    }

    @Override
    public Void visitMethod(MethodTree tree, String in) {
        String name = in + "." + tree.getName();
        Check.due("parameters of " + name, tree.getParameters().size() <= 7, true);
        long lines = line(tree, true) - line(tree, false) + 1;
        Check.due("lines of " + name + ": " + lines, lines <= 60, true);
        Check.due("one method of a name: " + name, calls.containsKey(name), false);
        calls.put(name, new TreeSet<>());
        return super.visitMethod(tree, name);
    }

    @Override
    public Void visitNewClass(NewClassTree tree, String in) {
        // Objects are made in fields and in constructors alone, so that no call makes one.
        Check.due("new in " + in, in.contains(".") && !in.endsWith("<init>"), false);
        return super.visitNewClass(tree, in);
    }

    @Override
    public Void visitMethodInvocation(MethodInvocationTree tree, String in) {
        Element element = trees.getElement(new TreePath(getCurrentPath(), tree.getMethodSelect()));
        if (element instanceof ExecutableElement method) {
            String owner = method.getEnclosingElement().toString();
            if (owner.startsWith("LoopGround")) {
                calls.get(in).add(owner.substring(owner.lastIndexOf('.') + 1) + "." + method.getSimpleName());
            } else {
                String called = owner + "." + method.getSimpleName();
                Check.due("library: " + called, LIBRARY.contains(called), true);
            }
        }
        return super.visitMethodInvocation(tree, in);
    }

    private void depths() {
        for (String name : calls.keySet()) {
            int depth = depth(name, new ArrayList<>());
            Check.due("depth of " + name + ": " + depth, depth <= 8, true);
        }
    }

    private int depth(String name, List<String> above) {
        if (above.contains(name)) {
            Check.due("no recursion: " + name, false, true);
            return 0;
        }
        above.add(name);
        int deepest = 0;
        for (String called : calls.getOrDefault(name, Set.of())) {
            deepest = Math.max(deepest, depth(called, above));
        }
        above.remove(name);
        return deepest + 1;
    }
}
