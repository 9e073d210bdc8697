import com.sun.source.tree.AssertTree;
import com.sun.source.tree.AssignmentTree;
import com.sun.source.tree.BinaryTree;
import com.sun.source.tree.ClassTree;
import com.sun.source.tree.CompilationUnitTree;
import com.sun.source.tree.CompoundAssignmentTree;
import com.sun.source.tree.ExpressionTree;
import com.sun.source.tree.LambdaExpressionTree;
import com.sun.source.tree.LiteralTree;
import com.sun.source.tree.MemberReferenceTree;
import com.sun.source.tree.MethodInvocationTree;
import com.sun.source.tree.MethodTree;
import com.sun.source.tree.NewClassTree;
import com.sun.source.tree.SynchronizedTree;
import com.sun.source.tree.ThrowTree;
import com.sun.source.tree.Tree;
import com.sun.source.tree.TryTree;
import com.sun.source.tree.TypeCastTree;
import com.sun.source.tree.VariableTree;
import com.sun.source.util.JavacTask;
import com.sun.source.util.TreePath;
import com.sun.source.util.TreePathScanner;
import com.sun.source.util.Trees;
import java.io.IOException;
import java.nio.file.Files;
import java.nio.file.Path;
import java.util.LinkedHashMap;
import java.util.LinkedHashSet;
import java.util.List;
import java.util.Map;
import java.util.Set;
import javax.lang.model.element.Element;
import javax.lang.model.element.ExecutableElement;
import javax.lang.model.element.Modifier;
import javax.lang.model.element.TypeElement;
import javax.lang.model.type.TypeKind;
import javax.tools.JavaCompiler;
import javax.tools.StandardJavaFileManager;
import javax.tools.ToolProvider;

/**
 * The rules of ../shared/LANGUAGE.md that can be seen in the source. It is stricter than they are
 * where the class has no need of more: no try, no library but what is used.
 */
public final class LanguageTest extends TreePathScanner<Void, Void> {
    private static final Path SOURCE = Path.of("src/main/java/TravelPurses.java");
    private static final Set<String> LIBRARY = Set.of("java.lang.Math.min",
            "java.lang.System.arraycopy", "Array.clone", "java.lang.Object.<init>");
    private static final Set<String> EXCEPTIONS = Set.of("IllegalStateException",
            "IllegalArgumentException", "IndexOutOfBoundsException");
    private static final int MOST_CLASSES = 12;
    private static final int MOST_FIELDS = 20;
    private static final int MOST_PARAMETERS = 7;
    private static final int MOST_LINES = 60;
    private static final int MOST_DEPTH = 8;

    private final Check check;
    private final Trees trees;
    private final CompilationUnitTree unit;
    private final Map<Element, Set<Element>> calls = new LinkedHashMap<>();
    private int classes;
    private Element method;

    private LanguageTest(Check check, Trees trees, CompilationUnitTree unit) {
        this.check = check;
        this.trees = trees;
        this.unit = unit;
    }

    public static void main(String[] args) throws IOException {
        Check check = new Check("LanguageTest");
        charactersAreAscii(check);
        JavaCompiler compiler = ToolProvider.getSystemJavaCompiler();
        try (StandardJavaFileManager files = compiler.getStandardFileManager(null, null, null)) {
            JavacTask task = (JavacTask) compiler.getTask(null, files, null, List.of("-proc:none"),
                    null, files.getJavaFileObjects(SOURCE));
            CompilationUnitTree unit = task.parse().iterator().next();
            task.analyze();
            LanguageTest test = new LanguageTest(check, Trees.instance(task), unit);
            test.scan(unit, null);
            test.end();
        }
        check.end();
    }

    private static void charactersAreAscii(Check check) throws IOException {
        for (byte code : Files.readAllBytes(SOURCE)) {
            if (code < 1) {
                check.fail("a character that is not 1 to 127");
            }
        }
    }

    private void end() {
        check.is("rule 1: imports", unit.getImports().size(), 0);
        check.is("rule 1: types of the file", unit.getTypeDecls().size(), 1);
        atMost("rule 11: classes", classes, MOST_CLASSES);
        for (Element called : calls.keySet()) {
            atMost("rules 8 and 11: calls that stand open in " + called,
                    depth(called, new LinkedHashSet<>()), MOST_DEPTH);
        }
    }

    /** How deep the calls go from here; of a recursion, more than is allowed. */
    private int depth(Element called, Set<Element> open) {
        if (!open.add(called)) {
            return MOST_DEPTH + 1;
        }
        int deepest = 0;
        for (Element next : calls.getOrDefault(called, Set.of())) {
            deepest = Math.max(deepest, depth(next, open));
        }
        open.remove(called);
        return deepest + 1;
    }

    private void atMost(String what, long got, long most) {
        if (got > most) {
            check.fail(what + ": " + got + ", at most " + most + " are allowed");
        }
    }

    private void never(String what, Tree tree) {
        check.fail(what + ": " + tree);
    }

    private Element element(Tree tree) {
        return trees.getElement(new TreePath(getCurrentPath(), tree));
    }

    @Override
    public Void visitClass(ClassTree tree, Void none) {
        classes++;
        boolean isInside = classes > 1;
        Set<Modifier> modifiers = tree.getModifiers().getFlags();
        check.is("rule 1: modifiers of " + tree.getSimpleName(),
                modifiers.equals(isInside ? Set.of(Modifier.PRIVATE, Modifier.STATIC,
                Modifier.FINAL) : Set.of(Modifier.PUBLIC, Modifier.FINAL)) ? 1 : 0, 1);
        int fields = 0;
        for (Tree member : tree.getMembers()) {
            if (member instanceof VariableTree field) {
                fields += isConstant(field) ? 0 : 1;
            } else if (!(member instanceof MethodTree) && !(member instanceof ClassTree)) {
                never("rule 5: no block of initialising", member);
            }
        }
        atMost("rule 11: fields of " + tree.getSimpleName(), fields, MOST_FIELDS);
        return super.visitClass(tree, none);
    }

    private boolean isConstant(VariableTree field) {
        Set<Modifier> modifiers = field.getModifiers().getFlags();
        if (modifiers.contains(Modifier.STATIC) && !modifiers.contains(Modifier.FINAL)) {
            never("rule 5: a static field is final", field);
        }
        return modifiers.contains(Modifier.STATIC);
    }

    @Override
    public Void visitMethod(MethodTree tree, Void none) {
        Element outer = method;
        method = trees.getElement(getCurrentPath());
        calls.computeIfAbsent(method, key -> new LinkedHashSet<>());
        atMost("rule 11: parameters of " + method, tree.getParameters().size(), MOST_PARAMETERS);
        atMost("rule 11: lines of " + method, lines(tree), MOST_LINES);
        super.visitMethod(tree, none);
        method = outer;
        return null;
    }

    private long lines(MethodTree tree) {
        long start = trees.getSourcePositions().getStartPosition(unit, tree);
        long end = trees.getSourcePositions().getEndPosition(unit, tree);
        return start < 0 || end < 0 ? 0
                : unit.getLineMap().getLineNumber(end) - unit.getLineMap().getLineNumber(start) + 1;
    }

    @Override
    public Void visitMethodInvocation(MethodInvocationTree tree, Void none) {
        called((ExecutableElement) element(tree), tree);
        return super.visitMethodInvocation(tree, none);
    }

    @Override
    public Void visitNewClass(NewClassTree tree, Void none) {
        String name = tree.getIdentifier().toString();
        if (!EXCEPTIONS.contains(name)) {
            called((ExecutableElement) element(tree), tree);
        }
        return super.visitNewClass(tree, none);
    }

    private void called(ExecutableElement target, Tree tree) {
        TypeElement owner = (TypeElement) target.getEnclosingElement();
        String name = owner.getQualifiedName() + "." + target.getSimpleName();
        if (name.startsWith("TravelPurses.")) {
            if (method != null) {
                calls.get(method).add(target);
            }
        } else if (!LIBRARY.contains(name)) {
            never("rule 4: no library but what it lists, " + name, tree);
        }
    }

    @Override
    public Void visitThrow(ThrowTree tree, Void none) {
        boolean isAllowed = tree.getExpression() instanceof NewClassTree made
                && EXCEPTIONS.contains(made.getIdentifier().toString())
                && made.getArguments().size() <= 1
                && made.getArguments().stream().allMatch(text -> text instanceof LiteralTree);
        if (!isAllowed || method.getSimpleName().contentEquals("<init>")) {
            never("rule 6: throw", tree);
        }
        return super.visitThrow(tree, none);
    }

    @Override
    public Void visitBinary(BinaryTree tree, Void none) {
        if (isText(tree.getLeftOperand()) || isText(tree.getRightOperand())) {
            never("rules 6 and 10: no + and no == of texts", tree);
        }
        return super.visitBinary(tree, none);
    }

    private boolean isText(ExpressionTree tree) {
        TreePath path = new TreePath(getCurrentPath(), tree);
        return trees.getTypeMirror(path).toString().equals("java.lang.String");
    }

    @Override
    public Void visitAssignment(AssignmentTree tree, Void none) {
        constantStays(tree.getVariable());
        return super.visitAssignment(tree, none);
    }

    @Override
    public Void visitCompoundAssignment(CompoundAssignmentTree tree, Void none) {
        constantStays(tree.getVariable());
        return super.visitCompoundAssignment(tree, none);
    }

    private void constantStays(ExpressionTree target) {
        if (target.toString().matches("[A-Z_0-9]+\\[.*")) {
            never("rule 5: a constant array is never changed", target);
        }
    }

    @Override
    public Void visitTypeCast(TypeCastTree tree, Void none) {
        TypeKind kind = trees.getTypeMirror(getCurrentPath()).getKind();
        if (!kind.isPrimitive()) {
            never("rule 6: no cast but of numbers", tree);
        }
        return super.visitTypeCast(tree, none);
    }

    @Override
    public Void visitTry(TryTree tree, Void none) {
        never("rule 6: try", tree);
        return null;
    }

    @Override
    public Void visitLambdaExpression(LambdaExpressionTree tree, Void none) {
        never("rule 2: lambda", tree);
        return null;
    }

    @Override
    public Void visitMemberReference(MemberReferenceTree tree, Void none) {
        never("rule 2: method reference", tree);
        return null;
    }

    @Override
    public Void visitSynchronized(SynchronizedTree tree, Void none) {
        never("rule 6: synchronized", tree);
        return null;
    }

    @Override
    public Void visitAssert(AssertTree tree, Void none) {
        never("rule 6: assert", tree);
        return null;
    }
}
