import com.sun.source.tree.ArrayAccessTree;
import com.sun.source.tree.BinaryTree;
import com.sun.source.tree.ClassTree;
import com.sun.source.tree.CompilationUnitTree;
import com.sun.source.tree.CompoundAssignmentTree;
import com.sun.source.tree.ExpressionTree;
import com.sun.source.tree.LambdaExpressionTree;
import com.sun.source.tree.MemberReferenceTree;
import com.sun.source.tree.MethodInvocationTree;
import com.sun.source.tree.MethodTree;
import com.sun.source.tree.NewArrayTree;
import com.sun.source.tree.NewClassTree;
import com.sun.source.tree.ThrowTree;
import com.sun.source.tree.Tree;
import com.sun.source.tree.TryTree;
import com.sun.source.tree.VariableTree;
import com.sun.source.util.JavacTask;
import com.sun.source.util.TreePath;
import com.sun.source.util.TreePathScanner;
import com.sun.source.util.Trees;
import java.io.IOException;
import java.nio.file.Path;
import java.util.HashSet;
import java.util.LinkedHashMap;
import java.util.LinkedHashSet;
import java.util.List;
import java.util.Map;
import java.util.Set;
import java.util.regex.Pattern;
import javax.lang.model.element.Element;
import javax.lang.model.element.ElementKind;
import javax.lang.model.element.ExecutableElement;
import javax.lang.model.element.Modifier;
import javax.lang.model.element.VariableElement;
import javax.lang.model.type.TypeKind;
import javax.lang.model.type.TypeMirror;
import javax.tools.JavaCompiler;
import javax.tools.StandardJavaFileManager;
import javax.tools.ToolProvider;

/**
 * The rules of LANGUAGE.md that need the compiler's own view of the file: who calls whom, what is made, what may throw.
 * Where the class needs less than the rules leave it (no recursion, no object made by a call), it is held to that.
 */
public final class RulesTest {
    private static final int MOST_DEEP = 8, MOST_LINES = 60, MOST_FIELDS = 20;
    private static final Pattern LIBRARY = Pattern.compile("java\\.lang\\.("
        + "String\\.(length|charAt|isEmpty|equals|indexOf|substring|toCharArray)"
        + "|StringBuilder\\.(append|charAt|setCharAt|setLength|deleteCharAt|reverse|length|toString)"
        + "|System\\.arraycopy)|java\\.util\\.Arrays\\.(copyOf|copyOfRange|fill)"
        + "|java\\.util\\.(ArrayList|List)\\.(add|get|set|remove|size|isEmpty|clear|of)");
    private static final Set<String> OF_NUMBERS = Set.of("java.lang.Math", "java.lang.Integer", "java.lang.Long");
    /** The only methods that use an index; each looks at it in the same line. */
    private static final Set<String> INDEXED = Set.of("at", "put", "sum");
    private static final Due due = new Due("RulesTest");

    private final Map<Element, Set<Element>> calls = new LinkedHashMap<>();
    private Trees trees;
    private CompilationUnitTree file;

    public static void main(String[] args) throws IOException {
        RulesTest test = new RulesTest();
        test.look(Path.of(System.getProperty("project", ".")).resolve("src/main/java/StairSteps.java"));
        test.callsAreShallow();
        due.end();
    }

    private void look(Path source) throws IOException {
        JavaCompiler compiler = ToolProvider.getSystemJavaCompiler();
        try (StandardJavaFileManager files = compiler.getStandardFileManager(null, null, null)) {
            JavacTask task = (JavacTask) compiler.getTask(null, files, null, List.of("-proc:none"), null,
                files.getJavaFileObjects(source));
            trees = Trees.instance(task);
            for (CompilationUnitTree one : task.parse()) file = one;
            task.analyze();
            new Looker().scan(file, null);
        }
    }

    /** Calls go at most eight deep, and none comes back to itself (no method here needs recursion). */
    private void callsAreShallow() {
        due.holds("rule 11: methods are seen", calls.size() > 100);
        for (Element method : calls.keySet()) {
            int deep = depth(method, new HashSet<>());
            due.holds("rule 11: " + method + " goes " + deep + " deep", deep <= MOST_DEEP);
        }
    }

    private int depth(Element method, Set<Element> open) {
        if (!open.add(method)) return 1000;
        int deepest = 0;
        for (Element callee : calls.getOrDefault(method, Set.of())) deepest = Math.max(deepest, depth(callee, open));
        open.remove(method);
        return deepest + 1;
    }

    private final class Looker extends TreePathScanner<Void, Void> {
        private MethodTree method;
        private boolean isConstructor;

        @Override public Void visitClass(ClassTree one, Void none) {
            int fields = 0;
            for (Tree member : one.getMembers()) {
                if (!(member instanceof VariableTree)) continue;
                Set<Modifier> flags = ((VariableTree) member).getModifiers().getFlags();
                if (!flags.contains(Modifier.STATIC)) fields++;
                else due.holds("rule 5: " + member, flags.contains(Modifier.FINAL));
            }
            due.holds("rule 11: " + one.getSimpleName() + " has " + fields + " fields", fields <= MOST_FIELDS);
            return super.visitClass(one, none);
        }

        @Override public Void visitMethod(MethodTree one, Void none) {
            Element element = trees.getElement(getCurrentPath());
            method = one;
            isConstructor = element.getKind() == ElementKind.CONSTRUCTOR;
            calls.put(element, new LinkedHashSet<>());
            due.holds("rule 11: lines of " + one.getName(), lines(one) <= MOST_LINES);
            due.holds("rule 11: parameters of " + one.getName(), one.getParameters().size() <= 7);
            super.visitMethod(one, none);
            method = null;
            return null;
        }

        /** A field's first value stands outside of every method, and comes to be with its object. */
        private boolean inMaking() {
            return method == null || isConstructor;
        }

        private long lines(Tree tree) {
            long start = trees.getSourcePositions().getStartPosition(file, tree);
            long end = trees.getSourcePositions().getEndPosition(file, tree);
            if (start < 0 || end < 0) return 0;
            return file.getLineMap().getLineNumber(end) - file.getLineMap().getLineNumber(start) + 1;
        }

        @Override public Void visitMethodInvocation(MethodInvocationTree call, Void none) {
            Element callee = trees.getElement(new TreePath(getCurrentPath(), call.getMethodSelect()));
            if (isOwn(callee)) {
                due.holds("rule 12: " + callee + " is not called while an object is made", !inMaking());
                if (method != null) calls.get(trees.getElement(pathOf(method))).add(callee);
            } else if (callee.getKind() != ElementKind.CONSTRUCTOR) {
                String name = callee.getEnclosingElement() + "." + callee.getSimpleName();
                due.holds("rule 4: " + name, LIBRARY.matcher(name).matches() || isOfNumbers((ExecutableElement) callee));
            }
            return super.visitMethodInvocation(call, none);
        }

        /** A static function of Math, Integer or Long, over int and long alone, that does not throw. */
        private boolean isOfNumbers(ExecutableElement callee) {
            boolean numbers = isNumber(callee.getReturnType());
            for (VariableElement parameter : callee.getParameters()) numbers &= isNumber(parameter.asType());
            return numbers && callee.getModifiers().contains(Modifier.STATIC)
                && OF_NUMBERS.contains(callee.getEnclosingElement().toString())
                && !callee.getSimpleName().toString().endsWith("Exact");
        }

        private boolean isNumber(TypeMirror type) {
            return type.getKind() == TypeKind.INT || type.getKind() == TypeKind.LONG;
        }

        private TreePath pathOf(Tree tree) {
            return trees.getPath(file, tree);
        }

        private boolean isOwn(Element callee) {
            Element outer = callee.getEnclosingElement();
            while (outer != null && outer.getKind().isClass()) {
                if (outer.getSimpleName().contentEquals("StairSteps")) return callee.getKind() == ElementKind.METHOD;
                outer = outer.getEnclosingElement();
            }
            return false;
        }

        @Override public Void visitNewClass(NewClassTree made, Void none) {
            due.holds("rule 12: " + made + " is made with its owner", inMaking());
            due.holds("rule 2: " + made + " has no body", made.getClassBody() == null);
            return super.visitNewClass(made, none);
        }

        @Override public Void visitNewArray(NewArrayTree made, Void none) {
            due.holds("rule 12: " + made + " is made with its owner", inMaking());
            return super.visitNewArray(made, none);
        }

        @Override public Void visitArrayAccess(ArrayAccessTree access, Void none) {
            String where = method == null ? "a field" : method.getName().toString();
            due.holds("rule 7: " + access + " in " + where, INDEXED.contains(where));
            return super.visitArrayAccess(access, none);
        }

        @Override public Void visitBinary(BinaryTree tree, Void none) {
            if (tree.getKind() == Tree.Kind.DIVIDE || tree.getKind() == Tree.Kind.REMAINDER) divides(tree.getRightOperand());
            return super.visitBinary(tree, none);
        }

        @Override public Void visitCompoundAssignment(CompoundAssignmentTree tree, Void none) {
            Tree.Kind kind = tree.getKind();
            boolean plain = kind != Tree.Kind.DIVIDE_ASSIGNMENT && kind != Tree.Kind.REMAINDER_ASSIGNMENT;
            due.holds("rule 7: " + tree + " does not divide", plain);
            return super.visitCompoundAssignment(tree, none);
        }

        /** A divisor is a constant that is not 0, or its method compares it with 0 or 1. */
        private void divides(ExpressionTree divisor) {
            if (divisor.getKind() == Tree.Kind.INT_LITERAL || divisor.getKind() == Tree.Kind.LONG_LITERAL) {
                due.holds("rule 7: by " + divisor, !divisor.toString().matches("0L?"));
                return;
            }
            Element element = trees.getElement(new TreePath(getCurrentPath(), divisor));
            Object value = element instanceof VariableElement ? ((VariableElement) element).getConstantValue() : null;
            boolean constant = value instanceof Integer && (Integer) value != 0;
            String body = method == null ? "" : method.getBody().toString();
            boolean looked = body.contains(divisor + " > 0") || body.contains(divisor + " < 1");
            due.holds("rule 7: " + divisor + " is looked at before it divides", constant || looked);
        }

        @Override public Void visitThrow(ThrowTree tree, Void none) {
            due.holds("rule 6: " + tree, false);
            return null;
        }

        @Override public Void visitTry(TryTree tree, Void none) {
            due.holds("rule 6: " + tree, false);
            return null;
        }

        @Override public Void visitLambdaExpression(LambdaExpressionTree tree, Void none) {
            due.holds("rule 2: " + tree, false);
            return null;
        }

        @Override public Void visitMemberReference(MemberReferenceTree tree, Void none) {
            due.holds("rule 2: " + tree, false);
            return null;
        }
    }
}
