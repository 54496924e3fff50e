import com.sun.source.tree.ArrayAccessTree;
import com.sun.source.tree.BinaryTree;
import com.sun.source.tree.BlockTree;
import com.sun.source.tree.ClassTree;
import com.sun.source.tree.CompilationUnitTree;
import com.sun.source.tree.DoWhileLoopTree;
import com.sun.source.tree.EnhancedForLoopTree;
import com.sun.source.tree.ForLoopTree;
import com.sun.source.tree.ImportTree;
import com.sun.source.tree.LambdaExpressionTree;
import com.sun.source.tree.MemberReferenceTree;
import com.sun.source.tree.MethodInvocationTree;
import com.sun.source.tree.MethodTree;
import com.sun.source.tree.NewArrayTree;
import com.sun.source.tree.NewClassTree;
import com.sun.source.tree.ThrowTree;
import com.sun.source.tree.Tree;
import com.sun.source.tree.TryTree;
import com.sun.source.tree.TypeCastTree;
import com.sun.source.tree.VariableTree;
import com.sun.source.tree.WhileLoopTree;
import com.sun.source.util.JavacTask;
import com.sun.source.util.TreePath;
import com.sun.source.util.TreePathScanner;
import com.sun.source.util.Trees;
import java.io.IOException;
import java.nio.file.Path;
import java.util.HashMap;
import java.util.LinkedHashSet;
import java.util.List;
import java.util.Map;
import java.util.Set;
import javax.lang.model.element.Element;
import javax.lang.model.element.ExecutableElement;
import javax.lang.model.element.Modifier;
import javax.lang.model.element.TypeElement;
import javax.lang.model.element.VariableElement;
import javax.lang.model.type.TypeMirror;
import javax.tools.JavaCompiler;
import javax.tools.StandardJavaFileManager;
import javax.tools.ToolProvider;

/**
 * The rules of LANGUAGE.md that can be counted. The program uses less than the rules leave it (no while, no try, no
 * cast of objects), and this test holds it to that: who needs more looks the rule up and widens the test.
 */
public final class LanguageTest {

    private static final Path PROGRAM = Path.of("src/main/java/SpeedTurns.java");

    private static final Set<String> LIBRARY = Set.of(
        "java.lang.Math.min", "java.lang.Math.max", "java.lang.System.arraycopy", "java.util.Arrays.fill");
    private static final Set<String> TYPES = Set.of("int", "long", "boolean", "double", "void", "int[]");
    private static final Set<String> THROWN = Set.of(
        "java.lang.IllegalStateException", "java.lang.IllegalArgumentException", "java.lang.IndexOutOfBoundsException");

    private static final int MOST_PARAMETERS = 7;
    private static final int MOST_LINES = 60;
    private static final int MOST_DEPTH = 8;
    private static final int MOST_CLASSES = 12;
    private static final int MOST_FIELDS = 20;

    private final Check check = new Check("LanguageTest");
    private final Map<Element, Set<Element>> calls = new HashMap<>();
    private int classes = 0;

    public static void main(String[] args) throws IOException {
        new LanguageTest().run();
    }

    private void run() throws IOException {
        JavaCompiler compiler = ToolProvider.getSystemJavaCompiler();
        try (StandardJavaFileManager files = compiler.getStandardFileManager(null, null, null)) {
            JavacTask task = (JavacTask) compiler.getTask(null, files, null, List.of("-proc:none"), null,
                    files.getJavaFileObjects(PROGRAM));
            CompilationUnitTree unit = task.parse().iterator().next();
            task.analyze();
            check.yes("no package line", unit.getPackage() == null);
            check.same("classes beside each other", 1, unit.getTypeDecls().size());
            new Reader(Trees.instance(task), unit).scan(unit, null);
        }
        check.yes("11: classes of the file: " + classes, classes <= MOST_CLASSES);
        for (Element start : calls.keySet()) {
            int depth = depthOf(start, new LinkedHashSet<>());
            check.yes("11: calls from " + start + ": " + depth, depth <= MOST_DEPTH);
        }
        check.finish();
    }

    /** How many calls stand open at once at most, its own and the library's too. */
    private int depthOf(Element method, Set<Element> open) {
        if (!open.add(method)) {
            check.yes("8: a recursion without a guard: " + open, false);
            return 0;
        }
        int deepest = 0;
        for (Element called : calls.getOrDefault(method, Set.of())) {
            deepest = Math.max(deepest, depthOf(called, open));
        }
        open.remove(method);
        return deepest + 1;
    }

    private final class Reader extends TreePathScanner<Void, Void> {
        private final Trees trees;
        private final CompilationUnitTree unit;

        Reader(Trees trees, CompilationUnitTree unit) {
            this.trees = trees;
            this.unit = unit;
        }

        private Element element() {
            return trees.getElement(getCurrentPath());
        }

        private TypeMirror typeOf(Tree tree) {
            return trees.getTypeMirror(new TreePath(getCurrentPath(), tree));
        }

        private long line(long position) {
            return unit.getLineMap().getLineNumber(position);
        }

        private long lineOf(Tree tree) {
            return line(trees.getSourcePositions().getStartPosition(unit, tree));
        }

        private void rule(String rule, Tree tree, boolean kept) {
            check.yes(rule + ", line " + lineOf(tree), kept);
        }

        /** The method or constructor that the present place is in; null for a field's first value. */
        private ExecutableElement within() {
            for (TreePath path = getCurrentPath(); path != null; path = path.getParentPath()) {
                if (path.getLeaf() instanceof MethodTree) {
                    return (ExecutableElement) trees.getElement(path);
                }
            }
            return null;
        }

        private boolean inConstructor() {
            return within() != null && within().getSimpleName().contentEquals("<init>");
        }

        private boolean isOwn(Element element) {
            Element top = element;
            while (top.getEnclosingElement() instanceof TypeElement outer) {
                top = outer;
            }
            return top.getSimpleName().contentEquals("SpeedTurns");
        }

        private void called(Element method) {
            if (within() != null) {
                calls.computeIfAbsent(within(), key -> new LinkedHashSet<>()).add(method);
            }
        }

        @Override
        public Void visitImport(ImportTree tree, Void none) {
            rule("4: an import", tree, tree.getQualifiedIdentifier().toString().equals("java.util.Arrays"));
            return null;
        }

        @Override
        public Void visitClass(ClassTree tree, Void none) {
            classes++;
            int fields = 0;
            for (Tree member : tree.getMembers()) {
                boolean field = member instanceof VariableTree;
                fields += field && !((VariableTree) member).getModifiers().getFlags().contains(Modifier.STATIC) ? 1 : 0;
                rule("5: a block of a class's own", member, !(member instanceof BlockTree));
            }
            rule("11: fields of " + tree.getSimpleName() + ": " + fields, tree, fields <= MOST_FIELDS);
            return super.visitClass(tree, none);
        }

        @Override
        public Void visitMethod(MethodTree tree, Void none) {
            long lines = line(trees.getSourcePositions().getEndPosition(unit, tree)) - lineOf(tree) + 1;
            rule("11: lines of " + tree.getName() + ": " + lines, tree, lines <= MOST_LINES);
            rule("11: parameters of " + tree.getName(), tree, tree.getParameters().size() <= MOST_PARAMETERS);
            ExecutableElement method = (ExecutableElement) element();
            rule("3: what " + tree.getName() + " answers", tree, isFine(method.getReturnType()));
            calls.computeIfAbsent(method, key -> new LinkedHashSet<>());
            return super.visitMethod(tree, none);
        }

        @Override
        public Void visitVariable(VariableTree tree, Void none) {
            VariableElement variable = (VariableElement) element();
            rule("3: the type of " + tree.getName(), tree, isFine(variable.asType()));
            Set<Modifier> flags = variable.getModifiers();
            if (flags.contains(Modifier.STATIC)) {
                boolean constant = flags.contains(Modifier.FINAL) && variable.getConstantValue() != null;
                rule("5: static " + tree.getName(), tree, constant);
            }
            return super.visitVariable(tree, none);
        }

        private boolean isFine(TypeMirror type) {
            return TYPES.contains(type.toString()) || type.toString().startsWith("SpeedTurns.");
        }

        @Override
        public Void visitMethodInvocation(MethodInvocationTree tree, Void none) {
            Element method = element();
            String name = method.getEnclosingElement() + "." + method.getSimpleName();
            boolean ofObject = name.equals("java.lang.Object.<init>");
            rule("4: a call of " + name, tree, isOwn(method) || ofObject || LIBRARY.contains(name));
            if (!ofObject) {
                called(method);
            }
            return super.visitMethodInvocation(tree, none);
        }

        @Override
        public Void visitNewClass(NewClassTree tree, Void none) {
            boolean thrown = getCurrentPath().getParentPath().getLeaf() instanceof ThrowTree;
            rule("12: an object is made", tree, thrown || inConstructor());
            called(element());
            return super.visitNewClass(tree, none);
        }

        @Override
        public Void visitNewArray(NewArrayTree tree, Void none) {
            rule("12: an array is made", tree, inConstructor());
            return super.visitNewArray(tree, none);
        }

        @Override
        public Void visitThrow(ThrowTree tree, Void none) {
            boolean made = tree.getExpression() instanceof NewClassTree;
            rule("6: an exception", tree, made && THROWN.contains(typeOf(tree.getExpression()).toString()));
            rule("6: a throw in a constructor", tree, !inConstructor());
            return super.visitThrow(tree, none);
        }

        @Override
        public Void visitTry(TryTree tree, Void none) {
            rule("6: try", tree, false);
            return super.visitTry(tree, none);
        }

        /** Rows are reached by tested indexes in these two classes alone. */
        @Override
        public Void visitArrayAccess(ArrayAccessTree tree, Void none) {
            String owner = within() == null ? "" : within().getEnclosingElement().getSimpleName().toString();
            rule("7: an index in " + owner, tree, owner.equals("Table") || owner.equals("History"));
            return super.visitArrayAccess(tree, none);
        }

        @Override
        public Void visitBinary(BinaryTree tree, Void none) {
            boolean divides = tree.getKind() == Tree.Kind.DIVIDE || tree.getKind() == Tree.Kind.REMAINDER;
            String divisor = tree.getRightOperand().toString();
            if (divides && !typeOf(tree.getRightOperand()).toString().equals("double")) {
                rule("7: a divisor", tree, divisor.matches("[1-9][0-9]*"));
            }
            rule("10: texts joined by +", tree, !typeOf(tree).toString().equals("java.lang.String"));
            return super.visitBinary(tree, none);
        }

        @Override
        public Void visitTypeCast(TypeCastTree tree, Void none) {
            rule("7: a cast of an object", tree, typeOf(tree.getType()).getKind().isPrimitive());
            return super.visitTypeCast(tree, none);
        }

        @Override
        public Void visitForLoop(ForLoopTree tree, Void none) {
            rule("9: a loop without a bound", tree, tree.getCondition() != null && !tree.getUpdate().isEmpty());
            return super.visitForLoop(tree, none);
        }

        @Override
        public Void visitEnhancedForLoop(EnhancedForLoopTree tree, Void none) {
            rule("9: for over", tree, false);
            return super.visitEnhancedForLoop(tree, none);
        }

        @Override
        public Void visitWhileLoop(WhileLoopTree tree, Void none) {
            rule("9: while", tree, false);
            return super.visitWhileLoop(tree, none);
        }

        @Override
        public Void visitDoWhileLoop(DoWhileLoopTree tree, Void none) {
            rule("9: do", tree, false);
            return super.visitDoWhileLoop(tree, none);
        }

        @Override
        public Void visitLambdaExpression(LambdaExpressionTree tree, Void none) {
            rule("2: a lambda", tree, false);
            return super.visitLambdaExpression(tree, none);
        }

        @Override
        public Void visitMemberReference(MemberReferenceTree tree, Void none) {
            rule("2: a method reference", tree, false);
            return super.visitMemberReference(tree, none);
        }
    }
}
