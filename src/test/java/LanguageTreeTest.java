import com.sun.source.tree.BinaryTree;
import com.sun.source.tree.CompilationUnitTree;
import com.sun.source.tree.CompoundAssignmentTree;
import com.sun.source.tree.ExpressionTree;
import com.sun.source.tree.MethodInvocationTree;
import com.sun.source.tree.MethodTree;
import com.sun.source.tree.NewArrayTree;
import com.sun.source.tree.NewClassTree;
import com.sun.source.tree.Tree;
import com.sun.source.tree.VariableTree;
import com.sun.source.util.JavacTask;
import com.sun.source.util.TreePath;
import com.sun.source.util.TreePathScanner;
import com.sun.source.util.Trees;
import java.io.IOException;
import java.util.ArrayDeque;
import java.util.Deque;
import java.util.EnumSet;
import java.util.HashSet;
import java.util.LinkedHashMap;
import java.util.List;
import java.util.Map;
import java.util.Set;
import javax.lang.model.element.Element;
import javax.lang.model.element.TypeElement;
import javax.lang.model.element.VariableElement;
import javax.tools.JavaCompiler;
import javax.tools.StandardJavaFileManager;
import javax.tools.ToolProvider;

/** Those rules of LANGUAGE.md that can be seen in the compiler's tree of the class. */
public final class LanguageTreeTest extends TreePathScanner<Void, Void> {
    private static final int DEEPEST = 8;
    private static final String OWN = "UnionClock";
    private static final Due due = new Due();
    /** What the class calls of the library; LANGUAGE.md, rule 4, lists what more it may. */
    private static final Set<String> LIBRARY = Set.of(
        "java.lang.String.length()", "java.lang.String.charAt(int)", "java.lang.Object.Object()",
        "java.lang.IndexOutOfBoundsException.IndexOutOfBoundsException(java.lang.String)",
        "java.lang.IllegalArgumentException.IllegalArgumentException(java.lang.String)",
        "java.lang.IllegalStateException.IllegalStateException(java.lang.String)");
    /** The types of its variables, beside its own classes and arrays; LANGUAGE.md, rule 3, lists more. */
    private static final Set<String> TYPES = Set.of("int", "char", "boolean", "java.lang.String");
    /** What the rules leave out, and what of the rest may make the machine throw if it is not looked at. */
    private static final Set<Tree.Kind> RULED_OUT = EnumSet.of(
        Tree.Kind.LAMBDA_EXPRESSION, Tree.Kind.MEMBER_REFERENCE, Tree.Kind.TRY, Tree.Kind.SYNCHRONIZED,
        Tree.Kind.ASSERT, Tree.Kind.TYPE_CAST, Tree.Kind.INSTANCE_OF, Tree.Kind.IMPORT, Tree.Kind.PACKAGE,
        Tree.Kind.ANNOTATION, Tree.Kind.FLOAT_LITERAL, Tree.Kind.DOUBLE_LITERAL);
    private static final Set<Tree.Kind> DIVISIONS = EnumSet.of(
        Tree.Kind.DIVIDE, Tree.Kind.REMAINDER, Tree.Kind.DIVIDE_ASSIGNMENT, Tree.Kind.REMAINDER_ASSIGNMENT);

    private final Trees trees;
    private final Map<String, Set<String>> callsOf = new LinkedHashMap<>();
    private final Deque<String> inMethod = new ArrayDeque<>();
    private int divisions;
    private int arrays;

    private LanguageTreeTest(Trees trees) {
        this.trees = trees;
    }

    public static void main(String[] args) throws IOException {
        JavaCompiler compiler = ToolProvider.getSystemJavaCompiler();
        try (StandardJavaFileManager files = compiler.getStandardFileManager(null, null, null)) {
            JavacTask task = (JavacTask) compiler.getTask(null, files, null, List.of("-proc:none"), null,
                    files.getJavaFileObjects("src/main/java/UnionClock.java"));
            Iterable<? extends CompilationUnitTree> units = task.parse();
            task.analyze();
            LanguageTreeTest test = new LanguageTreeTest(Trees.instance(task));
            for (CompilationUnitTree unit : units) {
                test.scan(new TreePath(unit), null);
            }
            test.depths();
            due.promise("LANGUAGE.md, what the tree shows");
            due.yes("divisions are found", test.divisions >= 3);
            due.yes("arrays are found", test.arrays >= 8);
        }
        due.end();
    }

    @Override
    public Void scan(Tree tree, Void nothing) {
        if (tree != null) {
            due.promise("LANGUAGE.md, rules 2, 6 and 7");
            due.no(tree.getKind() + " is found", RULED_OUT.contains(tree.getKind()));
            if (DIVISIONS.contains(tree.getKind())) {
                divides(tree);
            }
        }
        return super.scan(tree, nothing);
    }

    @Override
    public Void visitMethod(MethodTree method, Void nothing) {
        String name = nameOf(trees.getElement(getCurrentPath()));
        callsOf.computeIfAbsent(name, key -> new HashSet<>());
        inMethod.push(name);
        super.visitMethod(method, nothing);
        inMethod.pop();
        return null;
    }

    @Override
    public Void visitMethodInvocation(MethodInvocationTree call, Void nothing) {
        called(trees.getElement(getCurrentPath()));
        return super.visitMethodInvocation(call, nothing);
    }

    @Override
    public Void visitNewClass(NewClassTree made, Void nothing) {
        called(trees.getElement(getCurrentPath()));
        return super.visitNewClass(made, nothing);
    }

    @Override
    public Void visitNewArray(NewArrayTree made, Void nothing) {
        due.promise("LANGUAGE.md, rule 7, the length of a new array");
        for (ExpressionTree length : made.getDimensions()) {
            arrays++;
            due.yes(made + " has a constant length above 0", constant(length) > 0);
        }
        return super.visitNewArray(made, nothing);
    }

    @Override
    public Void visitVariable(VariableTree variable, Void nothing) {
        due.promise("LANGUAGE.md, rule 3");
        String type = trees.getTypeMirror(getCurrentPath()).toString();
        String part = type.endsWith("[]") ? type.substring(0, type.length() - 2) : type;
        due.yes(variable + " is of a type that stands in the list", part.startsWith(OWN) || TYPES.contains(part));
        return super.visitVariable(variable, nothing);
    }

    private void divides(Tree tree) {
        due.promise("LANGUAGE.md, rule 7, a divisor");
        divisions++;
        Tree divisor = tree instanceof BinaryTree
                ? ((BinaryTree) tree).getRightOperand() : ((CompoundAssignmentTree) tree).getExpression();
        due.yes(tree + " has a constant divisor above 0", constant(divisor) > 0);
    }

    /** The number that a literal or the name of a constant stands for; 0 for all else. */
    private long constant(Tree tree) {
        if (tree.getKind() == Tree.Kind.INT_LITERAL) {
            return Long.parseLong(tree.toString());
        }
        Element named = trees.getElement(new TreePath(getCurrentPath(), tree));
        Object value = named instanceof VariableElement ? ((VariableElement) named).getConstantValue() : null;
        return value instanceof Integer ? (Integer) value : 0;
    }

    /** A call in a field's initialiser counts as one of the constructors. */
    private void called(Element callee) {
        String name = nameOf(callee);
        if (name.startsWith(OWN)) {
            callsOf.computeIfAbsent(inMethod.isEmpty() ? "fields" : inMethod.peek(), key -> new HashSet<>()).add(name);
        } else {
            due.promise("LANGUAGE.md, rule 4");
            due.yes(name + " stands in the list", LIBRARY.contains(name));
        }
    }

    private static String nameOf(Element method) {
        TypeElement type = (TypeElement) method.getEnclosingElement();
        return type.getQualifiedName() + "." + method;
    }

    private void depths() {
        due.promise("LANGUAGE.md, rules 8 and 11");
        for (String method : callsOf.keySet()) {
            due.yes("calls from " + method + " go at most " + DEEPEST + " deep", depth(method, 1) <= DEEPEST);
        }
        due.yes("methods are found", callsOf.size() > 60);
    }

    /** Calls in a circle go deeper than any bound. */
    private int depth(String method, int above) {
        int deepest = above;
        if (above <= DEEPEST) {
            for (String callee : callsOf.getOrDefault(method, Set.of())) {
                deepest = Math.max(deepest, depth(callee, above + 1));
            }
        }
        return deepest;
    }
}
