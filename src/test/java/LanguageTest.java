import com.sun.source.tree.AssertTree;
import com.sun.source.tree.BinaryTree;
import com.sun.source.tree.BlockTree;
import com.sun.source.tree.ClassTree;
import com.sun.source.tree.CompilationUnitTree;
import com.sun.source.tree.CompoundAssignmentTree;
import com.sun.source.tree.DoWhileLoopTree;
import com.sun.source.tree.ExpressionTree;
import com.sun.source.tree.ForLoopTree;
import com.sun.source.tree.ImportTree;
import com.sun.source.tree.InstanceOfTree;
import com.sun.source.tree.LambdaExpressionTree;
import com.sun.source.tree.LiteralTree;
import com.sun.source.tree.MemberReferenceTree;
import com.sun.source.tree.MethodInvocationTree;
import com.sun.source.tree.MethodTree;
import com.sun.source.tree.NewArrayTree;
import com.sun.source.tree.NewClassTree;
import com.sun.source.tree.SynchronizedTree;
import com.sun.source.tree.ThrowTree;
import com.sun.source.tree.Tree;
import com.sun.source.tree.TryTree;
import com.sun.source.tree.VariableTree;
import com.sun.source.tree.WhileLoopTree;
import com.sun.source.util.JavacTask;
import com.sun.source.util.TreePath;
import com.sun.source.util.TreePathScanner;
import com.sun.source.util.Trees;
import java.io.IOException;
import java.nio.charset.StandardCharsets;
import java.nio.file.Files;
import java.nio.file.Path;
import java.util.List;
import java.util.Map;
import java.util.Set;
import java.util.TreeMap;
import java.util.TreeSet;
import javax.lang.model.element.Element;
import javax.lang.model.element.ElementKind;
import javax.lang.model.element.Modifier;
import javax.lang.model.type.ArrayType;
import javax.lang.model.type.TypeKind;
import javax.lang.model.type.TypeMirror;
import javax.tools.JavaCompiler;
import javax.tools.StandardJavaFileManager;
import javax.tools.ToolProvider;

/**
 * What of LANGUAGE.md can be seen in the source, rule by rule; .ci/run starts it in the project's directory. FaceTest has
 * rule 1, ExtremesTest tries rule 7. Where the class needs less than a rule allows, this asks for the less.
 */
final class LanguageTest extends TreePathScanner<Void, Void> {
    private static final Path SOURCE = Path.of("src/main/java/JoinedSketches.java");
    private static final Set<String> LIBRARY = Set.of("Math.max", "Math.min", "Math.abs", "Math.floorMod",
        "Math.floorDiv", "Integer.bitCount", "Long.bitCount", "Integer.compare", "Long.compare", "System.arraycopy",
        "Arrays.fill", "Arrays.copyOf", "Arrays.copyOfRange");
    private static final Set<String> SINGLE_TYPES = Set.of("int", "long", "short", "byte", "char", "boolean", "void",
        "java.lang.String", "java.lang.StringBuilder");
    private static final int MOST_PARAMETERS = 7, MOST_LINES = 60, MOST_DEPTH = 8, MOST_CLASSES = 12, MOST_FIELDS = 20;

    private final CompilationUnitTree unit;
    private final Trees trees;
    private final Map<String, Set<String>> calls = new TreeMap<>();
    private int classes = 0;

    private LanguageTest(CompilationUnitTree unit, Trees trees) {
        this.unit = unit;
        this.trees = trees;
    }

    public static void main(String[] args) throws IOException {
        signs();
        JavaCompiler compiler = ToolProvider.getSystemJavaCompiler();
        try (StandardJavaFileManager files = compiler.getStandardFileManager(null, null, null)) {
            JavacTask task = (JavacTask) compiler.getTask(null, files, null, List.of("-proc:none"), null,
                files.getJavaFileObjects(SOURCE));
            CompilationUnitTree unit = task.parse().iterator().next();
            task.analyze();
            LanguageTest test = new LanguageTest(unit, Trees.instance(task));
            test.scan(unit, null);
            test.wholeFile();
        }
        Due.end();
    }

    private static void signs() throws IOException {
        Due.sentence("4: constants, whose signs are 1 to 127");
        String source = Files.readString(SOURCE, StandardCharsets.UTF_8);
        Due.is("signs of the source above 126", source.chars().filter(sign -> sign > 126).count(), 0);
    }

    private void wholeFile() {
        Due.sentence("the program is one file without a package line");
        holds("no package", unit.getPackageName() == null);
        Due.is("classes that stand outside", unit.getTypeDecls().size(), 1);
        Due.sentence("11: some twelve classes; calls go at most eight deep");
        holds(classes + " classes", classes <= MOST_CLASSES);
        Due.sentence("8: this class has no recursion");
        for (String method : calls.keySet()) {
            depth(method, 1);
        }
    }

    private void depth(String method, int depth) {
        holds("calls that come to " + method + ", " + depth + " deep", depth <= MOST_DEPTH);
        if (depth <= MOST_DEPTH) {
            for (String called : calls.getOrDefault(method, Set.of())) {
                depth(called, depth + 1);
            }
        }
    }

    private static void holds(String what, boolean isSo) {
        Due.is(what + ": whether this holds", isSo ? 1 : 0, 1);
    }

    private String at(Tree tree) {
        long place = trees.getSourcePositions().getStartPosition(unit, tree);
        return "line " + unit.getLineMap().getLineNumber(place);
    }

    private long lines(Tree tree) {
        long start = trees.getSourcePositions().getStartPosition(unit, tree);
        long end = trees.getSourcePositions().getEndPosition(unit, tree);
        return unit.getLineMap().getLineNumber(end) - unit.getLineMap().getLineNumber(start) + 1;
    }

    private void not(String rule, Tree tree) {
        Due.sentence(rule);
        holds("there is none, " + at(tree), false);
    }

    @Override
    public Void visitImport(ImportTree tree, Void none) {
        Due.sentence("4: The library: only what stands here");
        Due.is("an import", tree.getQualifiedIdentifier().toString(), "java.util.Arrays");
        return super.visitImport(tree, none);
    }

    @Override
    public Void visitClass(ClassTree tree, Void none) {
        classes++;
        Set<Modifier> modifiers = tree.getModifiers().getFlags();
        boolean isOuter = getCurrentPath().getParentPath().getLeaf() == unit;
        Due.sentence("2: no inner class that isn't static, no local or anonymous class");
        holds(at(tree), isOuter || getCurrentPath().getParentPath().getParentPath().getLeaf() == unit
            && modifiers.contains(Modifier.STATIC) && !modifiers.contains(Modifier.PUBLIC)
            && !modifiers.contains(Modifier.PROTECTED));
        Due.sentence("11: a class some twenty fields beside its constants");
        holds(at(tree), tree.getMembers().stream().filter(LanguageTest::isField).count() <= MOST_FIELDS);
        return super.visitClass(tree, none);
    }

    private static boolean isField(Tree member) {
        return member instanceof VariableTree
            && !((VariableTree) member).getModifiers().getFlags().contains(Modifier.STATIC);
    }

    @Override
    public Void visitBlock(BlockTree tree, Void none) {
        if (getCurrentPath().getParentPath().getLeaf() instanceof ClassTree) {
            not("5: no static initialiser block", tree);
        }
        return super.visitBlock(tree, none);
    }

    @Override
    public Void visitVariable(VariableTree tree, Void none) {
        Set<Modifier> modifiers = tree.getModifiers().getFlags();
        Due.sentence("5: Static fields are final");
        holds(at(tree), !modifiers.contains(Modifier.STATIC) || modifiers.contains(Modifier.FINAL));
        isAllowed(tree, trees.getTypeMirror(new TreePath(getCurrentPath(), tree.getType())));
        return super.visitVariable(tree, none);
    }

    private void isAllowed(Tree tree, TypeMirror type) {
        Due.sentence("3: Types: numbers, arrays of these and of your own classes");
        boolean isArray = type.getKind() == TypeKind.ARRAY;
        String name = isArray ? ((ArrayType) type).getComponentType().toString() : type.toString();
        holds(at(tree) + ", " + type, SINGLE_TYPES.contains(name) || name.startsWith("JoinedSketches"));
    }

    @Override
    public Void visitMethod(MethodTree tree, Void none) {
        Due.sentence("11: A method takes at most seven parameters; methods stay short (some sixty lines)");
        holds(at(tree), tree.getParameters().size() <= MOST_PARAMETERS && lines(tree) <= MOST_LINES);
        Due.sentence("6: no equals, hashCode or toString of your own");
        holds(at(tree), !Set.of("equals", "hashCode", "toString").contains(tree.getName().toString()));
        if (tree.getReturnType() != null) {
            isAllowed(tree, trees.getTypeMirror(new TreePath(getCurrentPath(), tree.getReturnType())));
        }
        calls.putIfAbsent(nameOf(trees.getElement(getCurrentPath())), new TreeSet<>());
        return super.visitMethod(tree, none);
    }

    private static String nameOf(Element method) {
        return method.getEnclosingElement().getSimpleName() + "." + method.getSimpleName();
    }

    private static boolean isOwn(Element element) {
        Element outer = element;
        while (outer.getKind() != ElementKind.PACKAGE && !outer.getSimpleName().contentEquals("JoinedSketches")) {
            outer = outer.getEnclosingElement();
        }
        return outer.getKind() != ElementKind.PACKAGE;
    }

    /** The method or constructor around this place, or null in a field's initialiser. */
    private Element around() {
        TreePath path = getCurrentPath();
        while (path != null && !(path.getLeaf() instanceof MethodTree)) {
            path = path.getParentPath();
        }
        return path == null ? null : trees.getElement(path);
    }

    @Override
    public Void visitMethodInvocation(MethodInvocationTree tree, Void none) {
        Element called = trees.getElement(getCurrentPath());
        Element caller = around();
        boolean isSuper = tree.getMethodSelect().toString().equals("super");
        if (isOwn(called) && caller != null) {
            calls.computeIfAbsent(nameOf(caller), key -> new TreeSet<>()).add(nameOf(called));
        }
        Due.sentence("4: The library: only what stands here");
        holds(at(tree) + ", " + nameOf(called), isSuper || isOwn(called) || LIBRARY.contains(nameOf(called)));
        return super.visitMethodInvocation(tree, none);
    }

    private void isMadeInAConstructor(Tree tree) {
        Due.sentence("all calls of a run live in one room: objects are made in constructors alone");
        Element around = around();
        holds(at(tree), around == null || around.getKind() == ElementKind.CONSTRUCTOR);
    }

    @Override
    public Void visitNewClass(NewClassTree tree, Void none) {
        isMadeInAConstructor(tree);
        return super.visitNewClass(tree, none);
    }

    @Override
    public Void visitNewArray(NewArrayTree tree, Void none) {
        isMadeInAConstructor(tree);
        return super.visitNewArray(tree, none);
    }

    private void hasAnEnd(Tree tree, ExpressionTree condition) {
        Due.sentence("9: Every loop has an end that can be seen from its own lines");
        String words = condition == null ? "" : condition.toString();
        holds(at(tree) + ", " + words, words.contains("<") || words.contains(">"));
    }

    @Override
    public Void visitForLoop(ForLoopTree tree, Void none) {
        hasAnEnd(tree, tree.getCondition());
        return super.visitForLoop(tree, none);
    }

    @Override
    public Void visitWhileLoop(WhileLoopTree tree, Void none) {
        hasAnEnd(tree, tree.getCondition());
        return super.visitWhileLoop(tree, none);
    }

    @Override
    public Void visitDoWhileLoop(DoWhileLoopTree tree, Void none) {
        hasAnEnd(tree, tree.getCondition());
        return super.visitDoWhileLoop(tree, none);
    }

    private void isOfNumbers(Tree tree, TypeMirror type) {
        Due.sentence("10: joining texts by StringBuilder (not by +)");
        holds(at(tree), type.getKind().isPrimitive());
    }

    @Override
    public Void visitBinary(BinaryTree tree, Void none) {
        isOfNumbers(tree, trees.getTypeMirror(getCurrentPath()));
        return super.visitBinary(tree, none);
    }

    @Override
    public Void visitCompoundAssignment(CompoundAssignmentTree tree, Void none) {
        isOfNumbers(tree, trees.getTypeMirror(getCurrentPath()));
        return super.visitCompoundAssignment(tree, none);
    }

    @Override
    public Void visitLiteral(LiteralTree tree, Void none) {
        Due.sentence("3: this class has no floats");
        holds(at(tree), !(tree.getValue() instanceof Float) && !(tree.getValue() instanceof Double));
        return super.visitLiteral(tree, none);
    }

    @Override
    public Void visitThrow(ThrowTree tree, Void none) {
        not("6: No throw", tree);
        return super.visitThrow(tree, none);
    }

    @Override
    public Void visitTry(TryTree tree, Void none) {
        not("6: No try", tree);
        return super.visitTry(tree, none);
    }

    @Override
    public Void visitSynchronized(SynchronizedTree tree, Void none) {
        not("6: No synchronized", tree);
        return super.visitSynchronized(tree, none);
    }

    @Override
    public Void visitAssert(AssertTree tree, Void none) {
        not("6: No assert", tree);
        return super.visitAssert(tree, none);
    }

    @Override
    public Void visitInstanceOf(InstanceOfTree tree, Void none) {
        not("6: this class has no instanceof, and so no casts of objects", tree);
        return super.visitInstanceOf(tree, none);
    }

    @Override
    public Void visitLambdaExpression(LambdaExpressionTree tree, Void none) {
        not("2: no lambda", tree);
        return super.visitLambdaExpression(tree, none);
    }

    @Override
    public Void visitMemberReference(MemberReferenceTree tree, Void none) {
        not("2: no method reference", tree);
        return super.visitMemberReference(tree, none);
    }
}
