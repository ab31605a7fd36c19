import com.sun.source.tree.AssertTree;
import com.sun.source.tree.BinaryTree;
import com.sun.source.tree.ClassTree;
import com.sun.source.tree.CompilationUnitTree;
import com.sun.source.tree.ImportTree;
import com.sun.source.tree.LambdaExpressionTree;
import com.sun.source.tree.LiteralTree;
import com.sun.source.tree.MemberReferenceTree;
import com.sun.source.tree.MethodInvocationTree;
import com.sun.source.tree.MethodTree;
import com.sun.source.tree.NewClassTree;
import com.sun.source.tree.SynchronizedTree;
import com.sun.source.tree.ThrowTree;
import com.sun.source.tree.Tree;
import com.sun.source.tree.TryTree;
import com.sun.source.util.JavacTask;
import com.sun.source.util.SourcePositions;
import com.sun.source.util.TreePathScanner;
import com.sun.source.util.Trees;
import java.nio.charset.StandardCharsets;
import java.nio.file.Files;
import java.nio.file.Path;
import java.util.ArrayList;
import java.util.LinkedHashMap;
import java.util.LinkedHashSet;
import java.util.List;
import java.util.Map;
import java.util.Set;
import javax.lang.model.element.Element;
import javax.lang.model.element.ElementKind;
import javax.lang.model.element.ExecutableElement;
import javax.lang.model.element.Modifier;
import javax.lang.model.element.VariableElement;
import javax.lang.model.type.TypeMirror;
import javax.tools.JavaCompiler;
import javax.tools.StandardJavaFileManager;
import javax.tools.ToolProvider;

/** The rules of LANGUAGE.md that can be read from the source alone, of src/main/java/Monthyears.java. */
public final class RulesTests extends TreePathScanner<Void, Void> {
    private static final Path SOURCE = Path.of("src/main/java/Monthyears.java");
    private static final int DEEPEST = 8;
    private static final int LONGEST = 60;
    private static final int MOST_PARAMETERS = 7;
    private static final int MOST_CLASSES = 12;
    private static final int MOST_FIELDS = 20;

    // Only what the class uses of rule 4, so that a new name is held against that rule before it comes in.
    private static final Set<String> LIBRARY = Set.of("Math.floorDiv", "Math.floorMod", "Math.min",
        "StringBuilder.append", "StringBuilder.charAt", "StringBuilder.length", "StringBuilder.reverse",
        "StringBuilder.setLength", "StringBuilder.toString");
    private static final Set<String> MADE = Set.of("StringBuilder", "IndexOutOfBoundsException",
        "IllegalArgumentException");
    private static final Set<String> CONSTANTS = Set.of("int", "long", "boolean", "char", "java.lang.String", "int[]",
        "long[]", "char[]", "byte[]");

    private final CompilationUnitTree unit;
    private final Trees trees;
    private final SourcePositions positions;
    private final Map<Element, Set<Element>> calls = new LinkedHashMap<>();
    private Element current;
    private int classes = 0;

    private RulesTests(CompilationUnitTree unit, Trees trees) {
        this.unit = unit;
        this.trees = trees;
        this.positions = trees.getSourcePositions();
    }

    public static void main(String[] arguments) throws Exception {
        Checks.due("rule 4: a sign beyond 127", true, Files.readString(SOURCE).chars().allMatch(sign -> sign < 128));
        JavaCompiler compiler = ToolProvider.getSystemJavaCompiler();
        try (StandardJavaFileManager files = compiler.getStandardFileManager(null, null, StandardCharsets.UTF_8)) {
            JavacTask task = (JavacTask) compiler.getTask(null, files, null, List.of("-proc:none"), null,
                files.getJavaFileObjects(SOURCE));
            CompilationUnitTree unit = task.parse().iterator().next();
            task.analyze();
            RulesTests rules = new RulesTests(unit, Trees.instance(task));
            rules.scan(unit, null);
            rules.classesAreFew();
            rules.callsAreNotDeep();
        }
        Checks.end("RulesTests");
    }

    private void holds(int rule, Tree place, boolean isSo) {
        long line = unit.getLineMap().getLineNumber(positions.getStartPosition(unit, place));
        Checks.due("rule " + rule + ", line " + line, true, isSo);
    }

    private Element elementOf(Tree tree) {
        return trees.getElement(trees.getPath(unit, tree));
    }

    private TypeMirror typeOf(Tree tree) {
        return trees.getTypeMirror(trees.getPath(unit, tree));
    }

    // ---- what does not come in at all

    @Override
    public Void visitImport(ImportTree tree, Void none) {
        holds(4, tree, false);
        return super.visitImport(tree, none);
    }

    @Override
    public Void visitLambdaExpression(LambdaExpressionTree tree, Void none) {
        holds(2, tree, false);
        return super.visitLambdaExpression(tree, none);
    }

    @Override
    public Void visitMemberReference(MemberReferenceTree tree, Void none) {
        holds(2, tree, false);
        return super.visitMemberReference(tree, none);
    }

    @Override
    public Void visitAssert(AssertTree tree, Void none) {
        holds(6, tree, false);
        return super.visitAssert(tree, none);
    }

    @Override
    public Void visitSynchronized(SynchronizedTree tree, Void none) {
        holds(6, tree, false);
        return super.visitSynchronized(tree, none);
    }

    /** The class has no need to catch; rule 6 lets it only for what own code throws. */
    @Override
    public Void visitTry(TryTree tree, Void none) {
        holds(6, tree, false);
        return super.visitTry(tree, none);
    }

    @Override
    public Void visitBinary(BinaryTree tree, Void none) {
        boolean isOfTexts = tree.getKind() == Tree.Kind.PLUS && !typeOf(tree).getKind().isPrimitive();
        holds(10, tree, !isOfTexts);
        return super.visitBinary(tree, none);
    }

    // ---- what is thrown and made

    @Override
    public Void visitThrow(ThrowTree tree, Void none) {
        boolean isWritten = tree.getExpression() instanceof NewClassTree made
            && made.getArguments().stream().allMatch(LiteralTree.class::isInstance);
        holds(6, tree, isWritten && current.getKind() == ElementKind.METHOD);
        return super.visitThrow(tree, none);
    }

    @Override
    public Void visitNewClass(NewClassTree tree, Void none) {
        holds(4, tree, MADE.contains(tree.getIdentifier().toString()));
        return super.visitNewClass(tree, none);
    }

    // ---- sizes

    @Override
    public Void visitClass(ClassTree tree, Void none) {
        classes++;
        int fields = 0;
        for (Tree member : tree.getMembers()) {
            Element element = elementOf(member);
            if (element instanceof VariableElement && !element.getModifiers().contains(Modifier.STATIC)) {
                fields++;
            } else if (element instanceof VariableElement) {
                holds(5, member, element.getModifiers().contains(Modifier.FINAL)
                    && CONSTANTS.contains(element.asType().toString()));
            }
            holds(5, member, member.getKind() != Tree.Kind.BLOCK);
        }
        holds(11, tree, fields <= MOST_FIELDS);
        return super.visitClass(tree, none);
    }

    private void classesAreFew() {
        Checks.due("rule 11: no more classes than " + MOST_CLASSES, true, classes <= MOST_CLASSES);
    }

    @Override
    public Void visitMethod(MethodTree tree, Void none) {
        long first = unit.getLineMap().getLineNumber(positions.getStartPosition(unit, tree));
        long last = unit.getLineMap().getLineNumber(positions.getEndPosition(unit, tree));
        holds(11, tree, last - first < LONGEST && tree.getParameters().size() <= MOST_PARAMETERS);
        current = elementOf(tree);
        calls.put(current, new LinkedHashSet<>());
        return super.visitMethod(tree, none);
    }

    // ---- which method calls which

    @Override
    public Void visitMethodInvocation(MethodInvocationTree tree, Void none) {
        ExecutableElement called = (ExecutableElement) elementOf(tree);
        // Some functions of StringBuilder come from a class above it, which has no name for others.
        String owner = called.getEnclosingElement().getSimpleName().toString().replace("Abstract", "");
        boolean isOwn = trees.getTree(called) != null || called.getKind() == ElementKind.CONSTRUCTOR;
        holds(4, tree, isOwn || LIBRARY.contains(owner + "." + called.getSimpleName()));
        if (called.getKind() == ElementKind.METHOD) {
            calls.get(current).add(called);
        }
        return super.visitMethodInvocation(tree, none);
    }

    private void callsAreNotDeep() {
        for (Element method : calls.keySet()) {
            List<Element> chain = deepestFrom(method, new ArrayList<>());
            Checks.due("rule 11: the depth of " + chain + " is at most " + DEEPEST, true, chain.size() <= DEEPEST);
        }
    }

    /** The longest chain of calls from here on; one that comes back to itself is cut off, and fails as too deep. */
    private List<Element> deepestFrom(Element method, List<Element> above) {
        List<Element> chain = new ArrayList<>(above);
        chain.add(method);
        List<Element> deepest = chain;
        for (Element called : calls.getOrDefault(method, Set.of())) {
            if (chain.size() > DEEPEST) {
                break;
            }
            List<Element> further = deepestFrom(called, chain);
            deepest = further.size() > deepest.size() ? further : deepest;
        }
        return deepest;
    }
}
