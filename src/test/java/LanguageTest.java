import com.sun.source.tree.AssertTree;
import com.sun.source.tree.BinaryTree;
import com.sun.source.tree.BlockTree;
import com.sun.source.tree.ClassTree;
import com.sun.source.tree.CompilationUnitTree;
import com.sun.source.tree.DoWhileLoopTree;
import com.sun.source.tree.EnhancedForLoopTree;
import com.sun.source.tree.ExpressionTree;
import com.sun.source.tree.ForLoopTree;
import com.sun.source.tree.ImportTree;
import com.sun.source.tree.InstanceOfTree;
import com.sun.source.tree.LambdaExpressionTree;
import com.sun.source.tree.LiteralTree;
import com.sun.source.tree.MemberReferenceTree;
import com.sun.source.tree.MethodInvocationTree;
import com.sun.source.tree.MethodTree;
import com.sun.source.tree.NewArrayTree;
import com.sun.source.tree.NewClassTree;
import com.sun.source.tree.SynchronizedTree;
import com.sun.source.tree.ThrowTree;
import com.sun.source.tree.Tree;
import com.sun.source.tree.TryTree;
import com.sun.source.tree.TypeCastTree;
import com.sun.source.tree.VariableTree;
import com.sun.source.tree.WhileLoopTree;
import com.sun.source.util.JavacTask;
import com.sun.source.util.TreePath;
import com.sun.source.util.TreePathScanner;
import com.sun.source.util.Trees;
import java.io.IOException;
import java.nio.file.Path;
import java.util.HashMap;
import java.util.HashSet;
import java.util.List;
import java.util.Map;
import java.util.Set;
import javax.lang.model.element.Element;
import javax.lang.model.element.ElementKind;
import javax.lang.model.element.Modifier;
import javax.lang.model.type.ArrayType;
import javax.lang.model.type.TypeKind;
import javax.lang.model.type.TypeMirror;
import javax.tools.JavaCompiler;
import javax.tools.StandardJavaFileManager;
import javax.tools.ToolProvider;

/**
 * The rules of LANGUAGE.md that can be seen from the tree that javac makes of the class. Where the class needs less
 * than a rule allows (no library, no try, no while), the test asks for that, as it is easier to see; rule 1 is in
 * FaceTest, and rule 7 is what all tests of the answers are for. Run it from the checkout.
 */
public final class LanguageTest extends TreePathScanner<Void, Void> {
    private static final Path SOURCE = Path.of("src/main/java/MissRegisters.java");
    private static final Set<String> THROWN = Set.of("IllegalStateException", "IllegalArgumentException");
    private static final int MOST_PARAMETERS = 7;
    private static final int MOST_LINES = 60;
    private static final int MOST_DEPTH = 8;
    private static final int MOST_CLASSES = 12;
    private static final int MOST_FIELDS = 20;

    private final Check check = new Check();
    private final Trees trees;
    private final CompilationUnitTree unit;
    private final Map<Element, Set<Element>> calls = new HashMap<>();
    private int classes = 0;

    private LanguageTest(Trees trees, CompilationUnitTree unit) {
        this.trees = trees;
        this.unit = unit;
    }

    public static void main(String[] args) throws IOException {
        JavaCompiler compiler = ToolProvider.getSystemJavaCompiler();
        try (StandardJavaFileManager files = compiler.getStandardFileManager(null, null, null)) {
            JavacTask task = (JavacTask) compiler.getTask(null, files, null, List.of("--release", "17"), null,
                    files.getJavaFileObjects(SOURCE));
            CompilationUnitTree unit = task.parse().iterator().next();
            task.analyze();
            LanguageTest test = new LanguageTest(Trees.instance(task), unit);
            test.scan(unit, null);
            test.finish();
        }
    }

    private void finish() {
        check.due("the file has no package line", true, unit.getPackageName() == null);
        check.same("outer classes", "1", Integer.toString(unit.getTypeDecls().size()));
        check.due("rule 11: at most twelve classes", true, classes <= MOST_CLASSES);
        for (Element method : calls.keySet()) {
            int depth = depth(method, new HashSet<>());
            check.due("rules 8 and 11: " + method + " goes at most eight calls deep, and never to itself", true,
                    depth <= MOST_DEPTH);
        }
        check.due("the tree was seen", true, calls.size() > THROWN.size());
        check.end();
    }

    /** How many calls stand open at once, this one among them; more than any limit if one calls itself. */
    private int depth(Element method, Set<Element> open) {
        if (!open.add(method)) {
            return MOST_DEPTH * 1000;
        }
        int deepest = 0;
        for (Element called : calls.getOrDefault(method, Set.of())) {
            deepest = Math.max(deepest, depth(called, open));
        }
        open.remove(method);
        return deepest + 1;
    }

    private void refuse(String rule, Tree found) {
        check.same("line " + lineOf(found, false) + ", rule " + rule, "nothing of the kind", found.toString());
    }

    private void require(String rule, boolean holds, Tree found) {
        check.due("line " + lineOf(found, false) + ", rule " + rule, true, holds);
    }

    private long lineOf(Tree tree, boolean atEnd) {
        long start = trees.getSourcePositions().getStartPosition(unit, tree);
        long end = trees.getSourcePositions().getEndPosition(unit, tree);
        return unit.getLineMap().getLineNumber(atEnd ? end : start);
    }

    private boolean isOwn(Element element) {
        Element outermost = element;
        while (outermost.getEnclosingElement().getKind() != ElementKind.PACKAGE) {
            outermost = outermost.getEnclosingElement();
        }
        return outermost.getSimpleName().contentEquals("MissRegisters");
    }

    private Tree enclosing(Tree.Kind kind) {
        TreePath path = getCurrentPath().getParentPath();
        while (path != null && path.getLeaf().getKind() != kind) {
            path = path.getParentPath();
        }
        return path == null ? null : path.getLeaf();
    }

    private boolean isInConstructor() {
        MethodTree method = (MethodTree) enclosing(Tree.Kind.METHOD);
        return method != null && method.getReturnType() == null;
    }

    @Override
    public Void visitImport(ImportTree tree, Void none) {
        refuse("4: no library is needed", tree);
        return super.visitImport(tree, none);
    }

    @Override
    public Void visitClass(ClassTree tree, Void none) {
        classes++;
        require("2: no local class", enclosing(Tree.Kind.METHOD) == null, tree);
        int fields = 0;
        for (Tree member : tree.getMembers()) {
            boolean isField = member instanceof VariableTree field && !isStatic(field);
            fields += isField ? 1 : 0;
            if (member instanceof BlockTree) {
                refuse("5: no initialiser block", member);
            }
        }
        require("11: some twenty fields", fields <= MOST_FIELDS, tree);
        return super.visitClass(tree, none);
    }

    private static boolean isStatic(VariableTree field) {
        return field.getModifiers().getFlags().contains(Modifier.STATIC);
    }

    @Override
    public Void visitVariable(VariableTree tree, Void none) {
        TypeMirror type = trees.getTypeMirror(getCurrentPath());
        require("3: the type of " + tree.getName(), isRightType(type), tree);
        if (isStatic(tree)) {
            boolean isFinal = tree.getModifiers().getFlags().contains(Modifier.FINAL);
            require("5: " + tree.getName() + " is a final int", isFinal && type.getKind() == TypeKind.INT, tree);
        }
        return super.visitVariable(tree, none);
    }

    private boolean isRightType(TypeMirror type) {
        if (type.getKind() == TypeKind.ARRAY) {
            TypeMirror inside = ((ArrayType) type).getComponentType();
            return inside.getKind() != TypeKind.ARRAY && isRightType(inside);
        }
        boolean isOwnClass = type.getKind() == TypeKind.DECLARED && type.toString().startsWith("MissRegisters");
        return type.getKind() == TypeKind.INT || type.getKind() == TypeKind.BOOLEAN || isOwnClass;
    }

    @Override
    public Void visitMethod(MethodTree tree, Void none) {
        calls.putIfAbsent(trees.getElement(getCurrentPath()), new HashSet<>());
        require("11: at most seven parameters", tree.getParameters().size() <= MOST_PARAMETERS, tree);
        require("11: some sixty lines", lineOf(tree, true) - lineOf(tree, false) < MOST_LINES, tree);
        return super.visitMethod(tree, none);
    }

    @Override
    public Void visitMethodInvocation(MethodInvocationTree tree, Void none) {
        Element called = trees.getElement(getCurrentPath());
        MethodTree caller = (MethodTree) enclosing(Tree.Kind.METHOD);
        boolean isSuper = tree.getMethodSelect().toString().equals("super");
        require("4: a method of its own: " + tree, isSuper || isOwn(called), tree);
        if (!isSuper && caller != null) {
            Element from = trees.getElement(trees.getPath(unit, caller));
            calls.computeIfAbsent(from, key -> new HashSet<>()).add(called);
        }
        require("12: no call in a constructor", isSuper || !isInConstructor(), tree);
        return super.visitMethodInvocation(tree, none);
    }

    @Override
    public Void visitThrow(ThrowTree tree, Void none) {
        boolean isPlain = tree.getExpression() instanceof NewClassTree made
                && THROWN.contains(made.getIdentifier().toString())
                && made.getArguments().stream().allMatch(LanguageTest::isText);
        require("6: throw new E(\"a written text\")", isPlain, tree);
        require("6: no throw in a constructor", !isInConstructor(), tree);
        return super.visitThrow(tree, none);
    }

    private static boolean isText(ExpressionTree argument) {
        return argument instanceof LiteralTree literal && literal.getValue() instanceof String text
                && text.chars().allMatch(c -> c <= 255);
    }

    @Override
    public Void visitNewClass(NewClassTree tree, Void none) {
        boolean isThrown = getCurrentPath().getParentPath().getLeaf() instanceof ThrowTree;
        boolean isMadeOnce = enclosing(Tree.Kind.METHOD) == null || isInConstructor();
        boolean isOwnClass = isOwn(trees.getElement(getCurrentPath()));
        require("12: made once, by a constructor", isThrown || isMadeOnce && isOwnClass, tree);
        require("2: no anonymous class", tree.getClassBody() == null, tree);
        return super.visitNewClass(tree, none);
    }

    @Override
    public Void visitNewArray(NewArrayTree tree, Void none) {
        require("12: made once, by a constructor", enclosing(Tree.Kind.METHOD) == null || isInConstructor(), tree);
        return super.visitNewArray(tree, none);
    }

    @Override
    public Void visitForLoop(ForLoopTree tree, Void none) {
        boolean counts = tree.getInitializer().size() == 1 && tree.getUpdate().size() == 1
                && tree.getInitializer().get(0) instanceof VariableTree counter
                && tree.getUpdate().get(0).getExpression().toString().equals(counter.getName() + "++")
                && tree.getCondition() != null && tree.getCondition().toString().startsWith(counter.getName() + " < ");
        require("9: a counter against a bound", counts, tree);
        return super.visitForLoop(tree, none);
    }

    @Override
    public Void visitWhileLoop(WhileLoopTree tree, Void none) {
        refuse("9: each loop counts", tree);
        return super.visitWhileLoop(tree, none);
    }

    @Override
    public Void visitDoWhileLoop(DoWhileLoopTree tree, Void none) {
        refuse("9: each loop counts", tree);
        return super.visitDoWhileLoop(tree, none);
    }

    @Override
    public Void visitEnhancedForLoop(EnhancedForLoopTree tree, Void none) {
        refuse("9: each loop counts", tree);
        return super.visitEnhancedForLoop(tree, none);
    }

    @Override
    public Void visitLambdaExpression(LambdaExpressionTree tree, Void none) {
        refuse("2: no lambda", tree);
        return super.visitLambdaExpression(tree, none);
    }

    @Override
    public Void visitMemberReference(MemberReferenceTree tree, Void none) {
        refuse("2: no method reference", tree);
        return super.visitMemberReference(tree, none);
    }

    @Override
    public Void visitTry(TryTree tree, Void none) {
        refuse("6: no try is needed", tree);
        return super.visitTry(tree, none);
    }

    @Override
    public Void visitSynchronized(SynchronizedTree tree, Void none) {
        refuse("6: no synchronized", tree);
        return super.visitSynchronized(tree, none);
    }

    @Override
    public Void visitAssert(AssertTree tree, Void none) {
        refuse("6: no assert", tree);
        return super.visitAssert(tree, none);
    }

    @Override
    public Void visitTypeCast(TypeCastTree tree, Void none) {
        refuse("6: no cast is needed", tree);
        return super.visitTypeCast(tree, none);
    }

    @Override
    public Void visitInstanceOf(InstanceOfTree tree, Void none) {
        refuse("6: no instanceof is needed", tree);
        return super.visitInstanceOf(tree, none);
    }

    @Override
    public Void visitBinary(BinaryTree tree, Void none) {
        TypeMirror type = trees.getTypeMirror(getCurrentPath());
        boolean isNumberOrTruth = type.getKind() == TypeKind.INT || type.getKind() == TypeKind.BOOLEAN;
        require("10: no text is joined by +", isNumberOrTruth, tree);
        return super.visitBinary(tree, none);
    }
}
