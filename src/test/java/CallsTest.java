import com.sun.source.tree.BinaryTree;
import com.sun.source.tree.CompilationUnitTree;
import com.sun.source.tree.CompoundAssignmentTree;
import com.sun.source.tree.ExpressionTree;
import com.sun.source.tree.LambdaExpressionTree;
import com.sun.source.tree.MethodInvocationTree;
import com.sun.source.tree.MethodTree;
import com.sun.source.tree.NewArrayTree;
import com.sun.source.tree.NewClassTree;
import com.sun.source.tree.TypeCastTree;
import com.sun.source.tree.VariableTree;
import com.sun.source.util.JavacTask;
import com.sun.source.util.TreePath;
import com.sun.source.util.TreePathScanner;
import com.sun.source.util.Trees;
import java.io.IOException;
import java.nio.file.Path;
import java.util.HashMap;
import java.util.List;
import java.util.Map;
import java.util.Set;
import java.util.TreeSet;
import javax.lang.model.element.Element;
import javax.lang.model.element.ExecutableElement;
import javax.lang.model.type.TypeMirror;
import javax.tools.JavaCompiler;
import javax.tools.StandardJavaFileManager;
import javax.tools.ToolProvider;

/** Those rules of ../shared/LANGUAGE.md that need the compiler's eye: what is called, what is made, how deep calls go. */
public final class CallsTest {
    private static final Path SOURCE = Path.of("src", "main", "java", "ChalkSquares.java");
    private static final int DEEPEST = 8;
    /** Rule 4, as far as the class needs it; what it comes to need is added here from there. */
    private static final Set<String> LIBRARY = Set.of("java.lang.Integer.bitCount", "java.lang.Math.floorDiv",
        "java.lang.Math.floorMod", "java.lang.Math.max", "java.lang.Math.min", "java.lang.Math.abs",
        "java.lang.System.arraycopy", "java.util.Arrays.copyOf", "java.util.Arrays.copyOfRange", "java.util.Arrays.fill",
        "java.lang.Object.<init>");
    private static final Set<String> NUMBERS = Set.of("int", "long", "short", "byte", "char", "boolean");

    private final Check check = new Check("CallsTest");
    /** The methods that each method calls. */
    private final Map<String, Set<String>> calls = new HashMap<>();

    public static void main(String[] args) throws IOException {
        CallsTest test = new CallsTest();
        test.look();
        for (String method : test.calls.keySet()) {
            test.check.holds(method + " goes at most eight deep", test.depthOf(method, DEEPEST + 1) <= DEEPEST);
        }
        test.check.end();
    }

    private void look() throws IOException {
        JavaCompiler compiler = ToolProvider.getSystemJavaCompiler();
        try (StandardJavaFileManager files = compiler.getStandardFileManager(null, null, null)) {
            JavacTask task = (JavacTask) compiler.getTask(null, files, null, List.of("-proc:none"), null,
                files.getJavaFileObjects(SOURCE));
            Iterable<? extends CompilationUnitTree> units = task.parse();
            task.analyze();
            Looker looker = new Looker(Trees.instance(task));
            for (CompilationUnitTree unit : units) {
                looker.scan(unit, null);
            }
        }
    }

    /** How many calls stand open at once below a method, itself counted; a circle goes as deep as it is followed. */
    private int depthOf(String method, int most) {
        int deepest = 0;
        if (most > 1) {
            for (String called : calls.getOrDefault(method, Set.of())) {
                deepest = Math.max(deepest, depthOf(called, most - 1));
            }
        }
        return deepest + 1;
    }

    private final class Looker extends TreePathScanner<Void, Void> {
        private final Trees trees;
        private String method = "";

        Looker(Trees trees) {
            this.trees = trees;
        }

        @Override
        public Void visitMethod(MethodTree tree, Void nothing) {
            String outside = method;
            method = nameOf(trees.getElement(getCurrentPath()));
            calls.computeIfAbsent(method, m -> new TreeSet<>());
            super.visitMethod(tree, nothing);
            method = outside;
            return null;
        }

        @Override
        public Void visitMethodInvocation(MethodInvocationTree tree, Void nothing) {
            called(trees.getElement(getCurrentPath()));
            return super.visitMethodInvocation(tree, nothing);
        }

        @Override
        public Void visitNewClass(NewClassTree tree, Void nothing) {
            check.holds(tree + " has no body of its own", tree.getClassBody() == null);
            called(trees.getElement(getCurrentPath()));
            return super.visitNewClass(tree, nothing);
        }

        @Override
        public Void visitNewArray(NewArrayTree tree, Void nothing) {
            allowed(tree.toString(), typeOf(getCurrentPath()));
            return super.visitNewArray(tree, nothing);
        }

        @Override
        public Void visitVariable(VariableTree tree, Void nothing) {
            allowed(tree.toString(), typeOf(getCurrentPath()));
            return super.visitVariable(tree, nothing);
        }

        @Override
        public Void visitTypeCast(TypeCastTree tree, Void nothing) {
            check.holds(tree + " casts numbers", NUMBERS.contains(typeOf(getCurrentPath()).toString()));
            return super.visitTypeCast(tree, nothing);
        }

        @Override
        public Void visitBinary(BinaryTree tree, Void nothing) {
            isNoText(tree);
            return super.visitBinary(tree, nothing);
        }

        @Override
        public Void visitCompoundAssignment(CompoundAssignmentTree tree, Void nothing) {
            isNoText(tree);
            return super.visitCompoundAssignment(tree, nothing);
        }

        @Override
        public Void visitLambdaExpression(LambdaExpressionTree tree, Void nothing) {
            check.holds("no lambda: " + tree, false);
            return super.visitLambdaExpression(tree, nothing);
        }

        private void isNoText(ExpressionTree tree) {
            check.holds(tree + " joins no texts by +", NUMBERS.contains(typeOf(getCurrentPath()).toString()));
        }

        private TypeMirror typeOf(TreePath path) {
            return trees.getTypeMirror(path);
        }

        private void called(Element element) {
            String name = nameOf(element);
            if (name.startsWith("ChalkSquares")) {
                calls.computeIfAbsent(method, m -> new TreeSet<>()).add(name);
            } else {
                check.holds(name + " stands in rule 4", LIBRARY.contains(name));
            }
        }

        /** Rule 3: numbers, rows of them in one or two dimensions, own classes, and rows of those. */
        private void allowed(String what, TypeMirror type) {
            String name = type.toString();
            String bare = name.replace("[]", "");
            int dimensions = (name.length() - bare.length()) / 2;
            boolean number = NUMBERS.contains(bare);
            boolean own = bare.startsWith("ChalkSquares.");
            check.holds(what + " is of a type that rule 3 names: " + name, number && dimensions <= 2 || own && dimensions <= 1);
        }

        /** The class counts, too: its methods of one name are taken as one. */
        private String nameOf(Element element) {
            String owner = element.getEnclosingElement().toString();
            return owner + "." + (element instanceof ExecutableElement e ? e.getSimpleName() : element.toString());
        }
    }
}
