import com.sun.source.tree.AnnotationTree;
import com.sun.source.tree.AssertTree;
import com.sun.source.tree.BinaryTree;
import com.sun.source.tree.ClassTree;
import com.sun.source.tree.CompilationUnitTree;
import com.sun.source.tree.CompoundAssignmentTree;
import com.sun.source.tree.DoWhileLoopTree;
import com.sun.source.tree.ExpressionTree;
import com.sun.source.tree.ForLoopTree;
import com.sun.source.tree.IdentifierTree;
import com.sun.source.tree.LambdaExpressionTree;
import com.sun.source.tree.MemberReferenceTree;
import com.sun.source.tree.MemberSelectTree;
import com.sun.source.tree.MethodInvocationTree;
import com.sun.source.tree.MethodTree;
import com.sun.source.tree.NewClassTree;
import com.sun.source.tree.SynchronizedTree;
import com.sun.source.tree.ThrowTree;
import com.sun.source.tree.Tree;
import com.sun.source.tree.TryTree;
import com.sun.source.tree.VariableTree;
import com.sun.source.tree.WhileLoopTree;
import com.sun.source.util.JavacTask;
import com.sun.source.util.TreePath;
import com.sun.source.util.TreePathScanner;
import com.sun.source.util.Trees;
import java.io.IOException;
import java.nio.file.Path;
import java.util.ArrayList;
import java.util.HashSet;
import java.util.LinkedHashMap;
import java.util.LinkedHashSet;
import java.util.List;
import java.util.Map;
import java.util.Set;
import java.util.TreeSet;
import javax.lang.model.element.Element;
import javax.lang.model.element.ElementKind;
import javax.lang.model.element.ExecutableElement;
import javax.lang.model.element.Modifier;
import javax.lang.model.element.TypeElement;
import javax.lang.model.element.VariableElement;
import javax.lang.model.type.TypeKind;
import javax.lang.model.type.TypeMirror;
import javax.tools.JavaCompiler;
import javax.tools.StandardJavaFileManager;
import javax.tools.ToolProvider;

/**
 * The rules of ../shared/LANGUAGE.md that the program's tree tells something of, by their numbers. What it does not tell,
 * such as an index that is looked at before it is used (7), is left to the reader.
 */
public final class LanguageTest {

    private static final String PROGRAM = "BrushStrokes";

    private static final Set<String> EXCEPTIONS = Set.of("IllegalStateException", "IllegalArgumentException",
        "IndexOutOfBoundsException", "ArithmeticException", "UnsupportedOperationException", "NoSuchElementException",
        "RuntimeException");

    private static final Set<String> TYPES = Set.of("String", "StringBuilder", "ArrayList", "List", "Integer", "Long", "Math",
        "Iterator", "Iterable", "Comparable", "System", "Arrays");

    private static final Set<String> CALLS = Set.of("String.length", "String.charAt", "String.isEmpty", "String.equals",
        "String.indexOf", "String.substring", "String.toCharArray", "StringBuilder.append", "StringBuilder.charAt",
        "StringBuilder.setCharAt", "StringBuilder.setLength", "StringBuilder.deleteCharAt", "StringBuilder.reverse",
        "StringBuilder.length", "StringBuilder.toString", "ArrayList.add", "ArrayList.get", "ArrayList.set", "ArrayList.remove",
        "ArrayList.size", "ArrayList.isEmpty", "ArrayList.clear", "List.add", "List.get", "List.set", "List.remove", "List.size",
        "List.isEmpty", "List.clear", "List.of", "System.arraycopy", "Arrays.copyOf", "Arrays.copyOfRange", "Arrays.fill");

    private static final Set<String> NUMBER_CALLS = Set.of("Integer", "Long", "Math");

    private static final Set<String> CONSTANT_TYPES = Set.of("int", "long", "boolean", "char", "java.lang.String", "int[]",
        "long[]", "char[]", "byte[]");

    private final Trees trees;
    private final CompilationUnitTree unit;
    private final Map<ExecutableElement, Set<ExecutableElement>> calls = new LinkedHashMap<>();
    private final Map<ExecutableElement, Set<String>> thrown = new LinkedHashMap<>();
    private final List<TypeElement> classes = new ArrayList<>();

    private LanguageTest(Trees trees, CompilationUnitTree unit) {
        this.trees = trees;
        this.unit = unit;
    }

    public static void main(String[] args) throws IOException {
        Path file = Path.of(args.length > 0 ? args[0] : "src/main/java/BrushStrokes.java");
        JavaCompiler compiler = ToolProvider.getSystemJavaCompiler();
        try (StandardJavaFileManager files = compiler.getStandardFileManager(null, null, null)) {
            JavacTask task = (JavacTask) compiler.getTask(null, files, null, List.of("-proc:none"), null,
                files.getJavaFileObjects(file));
            for (CompilationUnitTree unit : task.parse()) {
                task.analyze();
                new LanguageTest(Trees.instance(task), unit).test();
            }
        }
        Check.end();
    }

    private void test() {
        Check.due("the program has a package", unit.getPackage() != null, false);
        new Reader().scan(unit, null);
        Check.due("11: classes", classes.size() <= 12, true);
        names();
        for (ExecutableElement method : calls.keySet()) {
            if (method.getModifiers().contains(Modifier.PUBLIC)) {
                face(method);
            }
        }
    }

    private static boolean isOwn(Element element) {
        Element outermost = element;
        while (outermost != null && !outermost.getSimpleName().contentEquals(PROGRAM)) {
            outermost = outermost.getEnclosingElement();
        }
        return outermost != null;
    }

    private static String name(ExecutableElement method) {
        return method.getEnclosingElement().getSimpleName() + "." + method.getSimpleName();
    }

    // ---- what the methods are together

    private void names() {
        Set<String> publics = new HashSet<>();
        for (ExecutableElement method : calls.keySet()) {
            if (method.getModifiers().contains(Modifier.PUBLIC)) {
                publics.add(method.getSimpleName().toString());
            }
        }
        for (ExecutableElement method : calls.keySet()) {
            boolean isPrivate = method.getModifiers().contains(Modifier.PRIVATE);
            Check.due("1: " + name(method) + " is private and has a public name",
                isPrivate && publics.contains(method.getSimpleName().toString()), false);
        }
    }

    private void face(ExecutableElement method) {
        int depth = depth(method, new LinkedHashSet<>());
        Check.due("11: " + name(method) + " goes " + depth + " deep, at most 8", depth <= 8, true);
        Set<String> declared = new TreeSet<>();
        for (TypeMirror type : method.getThrownTypes()) {
            declared.add(type.toString().replaceAll(".*\\.", ""));
        }
        Check.due("6: what " + name(method) + " and its calls throw", reached(method, new HashSet<>()), declared);
    }

    private int depth(ExecutableElement method, Set<ExecutableElement> open) {
        if (!open.add(method)) {
            Check.due("8: " + name(method) + " calls itself", true, false);
            return 0;
        }
        int deepest = 0;
        for (ExecutableElement called : calls.getOrDefault(method, Set.of())) {
            deepest = Math.max(deepest, depth(called, open));
        }
        open.remove(method);
        return deepest + 1;
    }

    private Set<String> reached(ExecutableElement method, Set<ExecutableElement> seen) {
        Set<String> reached = new TreeSet<>();
        if (seen.add(method)) {
            reached.addAll(thrown.getOrDefault(method, Set.of()));
            for (ExecutableElement called : calls.getOrDefault(method, Set.of())) {
                reached.addAll(reached(called, seen));
            }
        }
        return reached;
    }

    /** Goes through the whole tree, and notes who calls and who throws what. */
    private final class Reader extends TreePathScanner<Void, Void> {

        private ExecutableElement method;

        private String where(Tree tree) {
            long at = trees.getSourcePositions().getStartPosition(unit, tree);
            return "line " + unit.getLineMap().getLineNumber(Math.max(at, 0));
        }

        private long lines(Tree tree) {
            long start = trees.getSourcePositions().getStartPosition(unit, tree);
            long end = trees.getSourcePositions().getEndPosition(unit, tree);
            return end < start ? 0 : unit.getLineMap().getLineNumber(end) - unit.getLineMap().getLineNumber(start) + 1;
        }

        private Element element() {
            return trees.getElement(getCurrentPath());
        }

        private boolean isArray(ExpressionTree tree) {
            TypeMirror type = trees.getTypeMirror(new TreePath(getCurrentPath(), tree));
            return type != null && type.getKind() == TypeKind.ARRAY;
        }

        private void never(String rule, Tree tree) {
            Check.due(rule + ", " + where(tree), "'" + tree + "'", "nothing of the kind");
        }

        // ---- classes, fields and methods

        @Override
        public Void visitClass(ClassTree tree, Void none) {
            TypeElement type = (TypeElement) element();
            boolean isMember = getCurrentPath().getParentPath().getLeaf().getKind() == Tree.Kind.CLASS;
            Check.due("2: " + tree.getSimpleName() + " is a member or the program",
                isMember || tree.getSimpleName().contentEquals(PROGRAM), true);
            Check.due("2: " + tree.getSimpleName() + " is static",
                !isMember || type.getModifiers().contains(Modifier.STATIC), true);
            classes.add(type);
            int fields = 0;
            for (Tree member : tree.getMembers()) {
                Check.due("5: a block in " + tree.getSimpleName(), member.getKind() == Tree.Kind.BLOCK, false);
                if (member instanceof VariableTree field && !field.getModifiers().getFlags().contains(Modifier.STATIC)) {
                    fields++;
                }
            }
            Check.due("11: " + fields + " fields of " + tree.getSimpleName() + ", at most 20", fields <= 20, true);
            return super.visitClass(tree, none);
        }

        @Override
        public Void visitVariable(VariableTree tree, Void none) {
            if (tree.getModifiers().getFlags().contains(Modifier.STATIC)) {
                Check.due("5: " + tree.getName() + " is final",
                    tree.getModifiers().getFlags().contains(Modifier.FINAL), true);
                String type = element().asType().toString();
                Check.due("5: the type " + type + " of " + tree.getName(), CONSTANT_TYPES.contains(type), true);
            }
            return super.visitVariable(tree, none);
        }

        @Override
        public Void visitMethod(MethodTree tree, Void none) {
            method = (ExecutableElement) element();
            calls.put(method, new LinkedHashSet<>());
            thrown.put(method, new TreeSet<>());
            Check.due("11: the parameters of " + name(method), tree.getParameters().size() <= 7, true);
            Check.due("11: the " + lines(tree) + " lines of " + name(method), lines(tree) <= 60, true);
            super.visitMethod(tree, none);
            method = null;
            return null;
        }

        // ---- names and calls

        @Override
        public Void visitIdentifier(IdentifierTree tree, Void none) {
            Element named = element();
            if (named instanceof TypeElement && !isOwn(named)) {
                String name = named.getSimpleName().toString();
                Check.due("3 and 4, " + where(tree) + ": " + name, TYPES.contains(name) || EXCEPTIONS.contains(name), true);
            }
            return super.visitIdentifier(tree, none);
        }

        @Override
        public Void visitMemberSelect(MemberSelectTree tree, Void none) {
            Element named = element();
            if (named instanceof VariableElement && !isOwn(named) && !isArray(tree.getExpression())) {
                never("4: a field of the library", tree);
            }
            return super.visitMemberSelect(tree, none);
        }

        @Override
        public Void visitMethodInvocation(MethodInvocationTree tree, Void none) {
            ExecutableElement called = (ExecutableElement) element();
            if (called.getKind() != ElementKind.CONSTRUCTOR) {
                if (method != null) {
                    calls.get(method).add(called);
                }
                Check.due("4, " + where(tree) + ": " + name(called),
                    isOwn(called) || isOfLibrary(called) || isArrayClone(tree, called), true);
            }
            return super.visitMethodInvocation(tree, none);
        }

        private boolean isOfLibrary(ExecutableElement called) {
            boolean ofNumbers = NUMBER_CALLS.contains(called.getEnclosingElement().getSimpleName().toString())
                && called.getModifiers().contains(Modifier.STATIC) && !name(called).endsWith("Exact");
            for (VariableElement parameter : called.getParameters()) {
                TypeKind kind = parameter.asType().getKind();
                ofNumbers &= kind == TypeKind.INT || kind == TypeKind.LONG;
            }
            return ofNumbers || CALLS.contains(name(called));
        }

        private boolean isArrayClone(MethodInvocationTree tree, ExecutableElement called) {
            return called.getSimpleName().contentEquals("clone")
                && tree.getMethodSelect() instanceof MemberSelectTree select && isArray(select.getExpression());
        }

        @Override
        public Void visitNewClass(NewClassTree tree, Void none) {
            ExecutableElement constructor = (ExecutableElement) element();
            if (method != null && isOwn(constructor)) {
                calls.get(method).add(constructor);
            }
            return super.visitNewClass(tree, none);
        }

        // ---- exceptions

        @Override
        public Void visitThrow(ThrowTree tree, Void none) {
            boolean written = tree.getExpression() instanceof NewClassTree made && EXCEPTIONS.contains(made.getIdentifier() + "")
                && made.getArguments().size() <= 1
                && made.getArguments().stream().allMatch(text -> text.getKind() == Tree.Kind.STRING_LITERAL);
            Check.due("6, " + where(tree) + ": a written exception", written, true);
            Check.due("6, " + where(tree) + ": a throw in a constructor", method.getKind() == ElementKind.CONSTRUCTOR, false);
            if (tree.getExpression() instanceof NewClassTree made) {
                thrown.get(method).add(made.getIdentifier().toString());
            }
            return super.visitThrow(tree, none);
        }

        // the rules would let some of them stand, but no call needs one, and without them reached() is exact
        @Override
        public Void visitTry(TryTree tree, Void none) {
            never("6: try", tree);
            return null;
        }

        // ---- loops and texts

        private void loop(Tree tree, ExpressionTree condition) {
            boolean hasEnd = condition != null && !condition.toString().replaceAll("[()]", "").equals("true");
            Check.due("9, " + where(tree) + ": the loop has an end", hasEnd, true);
        }

        @Override
        public Void visitForLoop(ForLoopTree tree, Void none) {
            loop(tree, tree.getCondition());
            return super.visitForLoop(tree, none);
        }

        @Override
        public Void visitWhileLoop(WhileLoopTree tree, Void none) {
            loop(tree, tree.getCondition());
            return super.visitWhileLoop(tree, none);
        }

        @Override
        public Void visitDoWhileLoop(DoWhileLoopTree tree, Void none) {
            loop(tree, tree.getCondition());
            return super.visitDoWhileLoop(tree, none);
        }

        private void joinsTexts(Tree tree) {
            TypeMirror type = trees.getTypeMirror(getCurrentPath());
            if (type != null && type.toString().equals("java.lang.String")) {
                never("10: texts joined by +", tree);
            }
        }

        @Override
        public Void visitBinary(BinaryTree tree, Void none) {
            joinsTexts(tree);
            return super.visitBinary(tree, none);
        }

        @Override
        public Void visitCompoundAssignment(CompoundAssignmentTree tree, Void none) {
            joinsTexts(tree);
            return super.visitCompoundAssignment(tree, none);
        }

        // ---- what never stands

        @Override
        public Void visitLambdaExpression(LambdaExpressionTree tree, Void none) {
            never("2: a lambda", tree);
            return null;
        }

        @Override
        public Void visitMemberReference(MemberReferenceTree tree, Void none) {
            never("2: a method reference", tree);
            return null;
        }

        @Override
        public Void visitSynchronized(SynchronizedTree tree, Void none) {
            never("6: synchronized", tree);
            return null;
        }

        @Override
        public Void visitAssert(AssertTree tree, Void none) {
            never("6: assert", tree);
            return null;
        }

        @Override
        public Void visitAnnotation(AnnotationTree tree, Void none) {
            never("4: an annotation", tree);
            return null;
        }
    }
}
