import com.sun.source.tree.AssertTree;
import com.sun.source.tree.BinaryTree;
import com.sun.source.tree.BlockTree;
import com.sun.source.tree.ClassTree;
import com.sun.source.tree.CompilationUnitTree;
import com.sun.source.tree.LambdaExpressionTree;
import com.sun.source.tree.LiteralTree;
import com.sun.source.tree.MemberReferenceTree;
import com.sun.source.tree.MethodInvocationTree;
import com.sun.source.tree.MethodTree;
import com.sun.source.tree.NewClassTree;
import com.sun.source.tree.SynchronizedTree;
import com.sun.source.tree.ThrowTree;
import com.sun.source.tree.Tree;
import com.sun.source.tree.TryTree;
import com.sun.source.tree.VariableTree;
import com.sun.source.util.JavacTask;
import com.sun.source.util.SourcePositions;
import com.sun.source.util.TreePathScanner;
import com.sun.source.util.Trees;
import java.util.ArrayDeque;
import java.util.Deque;
import java.util.LinkedHashMap;
import java.util.LinkedHashSet;
import java.util.List;
import java.util.Map;
import java.util.Set;
import java.util.TreeSet;
import javax.lang.model.element.Element;
import javax.lang.model.element.Modifier;
import javax.tools.JavaCompiler;
import javax.tools.StandardJavaFileManager;
import javax.tools.ToolProvider;

/** The rules of ../shared/LANGUAGE.md that can be seen from the class's text. Each kind of breach is counted: due is none. */
public final class LanguageTest extends TreePathScanner<Void, Void> {
    private static final String MAIN = "src/main/java/CronFinder.java";
    /** Those of rule 4 that the class uses or may come to use. */
    private static final Set<String> LIBRARY = Set.of("String.length", "String.charAt", "String.isEmpty",
            "String.indexOf", "String.substring", "String.toCharArray", "Integer.compare", "Integer.max", "Integer.min",
            "Integer.bitCount", "Integer.highestOneBit", "Integer.lowestOneBit", "Integer.numberOfLeadingZeros",
            "Integer.numberOfTrailingZeros", "Long.compare", "Long.max", "Long.min", "Long.bitCount", "Math.max",
            "Math.min", "Math.abs", "Math.floorDiv", "Math.floorMod", "System.arraycopy", "Arrays.copyOf",
            "Arrays.copyOfRange", "Arrays.fill");
    private static final Set<String> EXCEPTIONS = Set.of("IllegalStateException", "IllegalArgumentException",
            "IndexOutOfBoundsException", "ArithmeticException", "UnsupportedOperationException",
            "NoSuchElementException", "RuntimeException");
    private static final Set<String> STATIC_TYPES = Set.of("int", "long", "boolean", "char", "String", "int[]", "long[]",
            "char[]", "byte[]");

    private final Trees trees;
    private final CompilationUnitTree unit;
    private final Set<String> breaches = new TreeSet<>();
    private final Map<String, Set<String>> callsOf = new LinkedHashMap<>();
    private int classes = 0;
    private int methods = 0;

    private LanguageTest(Trees trees, CompilationUnitTree unit) {
        this.trees = trees;
        this.unit = unit;
    }

    public static void main(String[] args) throws Exception {
        JavaCompiler compiler = ToolProvider.getSystemJavaCompiler();
        try (StandardJavaFileManager files = compiler.getStandardFileManager(null, null, null)) {
            JavacTask task = (JavacTask) compiler.getTask(null, files, null, List.of("-proc:none"), null,
                    files.getJavaFileObjects(MAIN));
            CompilationUnitTree unit = task.parse().iterator().next();
            task.analyze();
            new LanguageTest(Trees.instance(task), unit).look();
        }
        Check.finish();
    }

    private void look() {
        scan(unit, null);
        Check.due("methods were seen", true, () -> methods > 9);
        Check.due("rule 11: some twelve classes", true, () -> classes <= 12);
        Check.due("no package, no import", true, () -> unit.getPackageName() == null && unit.getImports().isEmpty());
        for (String method : callsOf.keySet()) {
            int depth = depthOf(method, new ArrayDeque<>());
            if (depth > 8) {
                breaches.add("rule 11: calls " + depth + " deep from " + method);
            }
        }
        Check.due("breaches", Set.of(), () -> breaches);
    }

    /** The called ones of the library count too. */
    private int depthOf(String method, Deque<String> open) {
        if (open.contains(method)) {
            breaches.add("rule 8: " + method + " calls itself");
            return 0;
        }
        open.push(method);
        int deepest = 0;
        for (String called : callsOf.getOrDefault(method, Set.of())) {
            deepest = Math.max(deepest, depthOf(called, open));
        }
        open.pop();
        return deepest + 1;
    }

    private void breach(String rule, Tree tree) {
        long line = unit.getLineMap().getLineNumber(trees.getSourcePositions().getStartPosition(unit, tree));
        breaches.add(rule + " in line " + line);
    }

    private Element elementOf() {
        return trees.getElement(getCurrentPath());
    }

    private static String nameOf(Element element) {
        return element.getEnclosingElement().getSimpleName() + "." + element;
    }

    @Override
    public Void visitClass(ClassTree tree, Void none) {
        classes++;
        int fields = 0;
        for (Tree member : tree.getMembers()) {
            if (member instanceof VariableTree field) {
                boolean isStatic = field.getModifiers().getFlags().contains(Modifier.STATIC);
                fields += isStatic ? 0 : 1;
                if (isStatic && tree.getKind() != Tree.Kind.ENUM) {
                    lookAtStatic(field);
                }
            }
            if (member instanceof BlockTree) {
                breach("rule 5: initialiser block", member);
            }
        }
        if (fields > 20) {
            breach("rule 11: fields", tree);
        }
        boolean nested = classes > 1;
        boolean plain = tree.getKind() != Tree.Kind.CLASS || tree.getModifiers().getFlags().contains(Modifier.STATIC);
        if (nested && !plain) {
            breach("rule 1: a class inside is static", tree);
        }
        return super.visitClass(tree, none);
    }

    private void lookAtStatic(VariableTree field) {
        if (!field.getModifiers().getFlags().contains(Modifier.FINAL) || field.getInitializer() == null) {
            breach("rule 5: static state", field);
        }
        if (!STATIC_TYPES.contains(field.getType().toString())) {
            breach("rule 5: type of a constant", field);
        }
    }

    @Override
    public Void visitMethod(MethodTree tree, Void none) {
        methods++;
        SourcePositions positions = trees.getSourcePositions();
        long first = unit.getLineMap().getLineNumber(positions.getStartPosition(unit, tree));
        long last = unit.getLineMap().getLineNumber(Math.max(positions.getEndPosition(unit, tree), 0));
        if (last - first >= 60) {
            breach("rule 11: long method", tree);
        }
        if (tree.getParameters().size() > 7) {
            breach("rule 11: parameters", tree);
        }
        callsOf.computeIfAbsent(nameOf(elementOf()), name -> new LinkedHashSet<>());
        lookAtName(elementOf(), tree);
        return super.visitMethod(tree, none);
    }

    private void lookAtName(Element method, MethodTree tree) {
        for (Element other : method.getEnclosingElement().getEnclosedElements()) {
            boolean sameName = other.getSimpleName().equals(method.getSimpleName());
            if (sameName && other != method && other.getModifiers().contains(Modifier.PUBLIC)) {
                breach("rule 1: a private method with a public name", tree);
            }
        }
    }

    private void note(Element called, Tree tree) {
        String owner = called.getEnclosingElement().toString();
        boolean own = owner.startsWith("CronFinder");
        String plainName = called.getEnclosingElement().getSimpleName() + "." + called.getSimpleName();
        if (!own && tree instanceof MethodInvocationTree && !called.getSimpleName().contentEquals("<init>")
                && !LIBRARY.contains(plainName)) {
            breach("rule 4: " + plainName, tree);
        }
        for (var path = getCurrentPath(); path != null; path = path.getParentPath()) {
            if (path.getLeaf() instanceof MethodTree) {
                callsOf.get(nameOf(trees.getElement(path))).add(nameOf(called));
            }
        }
    }

    @Override
    public Void visitMethodInvocation(MethodInvocationTree tree, Void none) {
        note(elementOf(), tree);
        return super.visitMethodInvocation(tree, none);
    }

    @Override
    public Void visitNewClass(NewClassTree tree, Void none) {
        note(elementOf(), tree);
        return super.visitNewClass(tree, none);
    }

    @Override
    public Void visitThrow(ThrowTree tree, Void none) {
        boolean plain = tree.getExpression() instanceof NewClassTree made
                && EXCEPTIONS.contains(made.getIdentifier().toString()) && made.getArguments().size() <= 1
                && made.getArguments().stream().allMatch(text -> text instanceof LiteralTree);
        if (!plain) {
            breach("rule 6: throw", tree);
        }
        return super.visitThrow(tree, none);
    }

    @Override
    public Void visitTry(TryTree tree, Void none) {
        if (tree.getFinallyBlock() != null || !tree.getResources().isEmpty()) {
            breach("rule 6: try", tree);
        }
        return super.visitTry(tree, none);
    }

    @Override
    public Void visitSynchronized(SynchronizedTree tree, Void none) {
        breach("rule 6: synchronized", tree);
        return super.visitSynchronized(tree, none);
    }

    @Override
    public Void visitAssert(AssertTree tree, Void none) {
        breach("rule 6: assert", tree);
        return super.visitAssert(tree, none);
    }

    @Override
    public Void visitLambdaExpression(LambdaExpressionTree tree, Void none) {
        breach("rule 2: lambda", tree);
        return super.visitLambdaExpression(tree, none);
    }

    @Override
    public Void visitMemberReference(MemberReferenceTree tree, Void none) {
        breach("rule 2: method reference", tree);
        return super.visitMemberReference(tree, none);
    }

    @Override
    public Void visitBinary(BinaryTree tree, Void none) {
        boolean text = "java.lang.String".equals(String.valueOf(trees.getTypeMirror(getCurrentPath())));
        if (text) {
            breach("rule 10: texts joined by +", tree);
        }
        return super.visitBinary(tree, none);
    }
}
