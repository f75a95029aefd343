import com.sun.source.tree.BinaryTree;
import com.sun.source.tree.CompilationUnitTree;
import com.sun.source.tree.CompoundAssignmentTree;
import com.sun.source.tree.ExpressionTree;
import com.sun.source.tree.MethodInvocationTree;
import com.sun.source.tree.MethodTree;
import com.sun.source.tree.NewArrayTree;
import com.sun.source.tree.NewClassTree;
import com.sun.source.tree.Tree;
import com.sun.source.tree.VariableTree;
import com.sun.source.util.JavacTask;
import com.sun.source.util.TreePath;
import com.sun.source.util.TreePathScanner;
import com.sun.source.util.Trees;
import java.nio.file.Path;
import java.util.EnumSet;
import java.util.HashMap;
import java.util.List;
import java.util.Map;
import java.util.Set;
import java.util.TreeMap;
import java.util.TreeSet;
import javax.lang.model.element.Element;
import javax.lang.model.element.ElementKind;
import javax.lang.model.element.Modifier;
import javax.lang.model.element.TypeElement;
import javax.lang.model.element.VariableElement;
import javax.tools.JavaCompiler;
import javax.tools.StandardJavaFileManager;
import javax.tools.ToolProvider;

/**
 * The rules of ../shared/LANGUAGE.md that can be seen in the class's tree, as the compiler reads it: what
 * it is written with, what it calls of the library, what it makes, what divides, and how deep calls go.
 */
public final class CodeRulesTest {
    private static final int MOST_DEEP = 8;
    private static final Set<Tree.Kind> RULED_OUT = EnumSet.of(Tree.Kind.THROW, Tree.Kind.TRY, Tree.Kind.CATCH,
        Tree.Kind.SYNCHRONIZED, Tree.Kind.ASSERT, Tree.Kind.LAMBDA_EXPRESSION, Tree.Kind.MEMBER_REFERENCE,
        Tree.Kind.ANNOTATION, Tree.Kind.SWITCH_EXPRESSION, Tree.Kind.INSTANCE_OF);
    private static final Set<String> LIBRARY = Set.of("System.arraycopy", "Arrays.fill", "Math.max", "Math.min",
        "Integer.bitCount", "Integer.numberOfTrailingZeros", "String.length", "String.charAt", "String.indexOf");
    /** What goes by a divisor that is no constant, and looks at it ahead. */
    private static final Set<String> DIVIDING = Set.of("GuessFerry.lot", "Laws.joined");
    /** What calls itself, or one another: each carries its depth, or the goes that are left. */
    private static final Set<String> RECURRING =
        Set.of("Reader.readSum", "Reader.readProduct", "Reader.readUnit", "Outlook.oddsOverWithin");

    private static int wrong = 0;

    private final Trees trees;
    private final Map<String, Set<String>> calls = new TreeMap<>();
    private final Set<String> published = new TreeSet<>();

    private CodeRulesTest(Trees trees) {
        this.trees = trees;
    }

    public static void main(String[] args) throws Exception {
        JavaCompiler compiler = ToolProvider.getSystemJavaCompiler();
        try (StandardJavaFileManager files = compiler.getStandardFileManager(null, null, null)) {
            JavacTask task = (JavacTask) compiler.getTask(null, files, null, List.of("-proc:none"), null,
                files.getJavaFileObjects(Path.of("src/main/java/GuessFerry.java")));
            Iterable<? extends CompilationUnitTree> units = task.parse();
            task.analyze();
            CodeRulesTest test = new CodeRulesTest(Trees.instance(task));
            for (CompilationUnitTree unit : units) {
                test.new Scanner().scan(unit, null);
            }
            test.depths();
        }
        System.out.println(wrong == 0 ? "CodeRulesTest: all rules are kept" : wrong + " rules are broken");
        if (wrong != 0) {
            System.exit(1);
        }
    }

    private static void must(boolean is, String what) {
        if (!is) {
            wrong++;
            System.out.println("not so: " + what);
        }
    }

    /** Calls go at most eight deep; those that recur count once, however often they do. */
    private void depths() {
        Map<String, Set<String>> reached = new TreeMap<>();
        for (String from : calls.keySet()) {
            Set<String> all = new TreeSet<>();
            reach(from, all);
            reached.put(from, all);
        }
        Set<String> recurring = new TreeSet<>();
        for (String one : calls.keySet()) {
            if (reached.get(one).contains(one)) {
                recurring.add(one);
            }
        }
        must(recurring.equals(RECURRING), "nothing recurs but what is known to: " + recurring);
        Map<String, Integer> known = new HashMap<>();
        must(!published.isEmpty(), "there are calls");
        for (String one : published) {
            int deep = depthOf(one, reached, known);
            must(deep <= MOST_DEEP, one + " goes at most " + MOST_DEEP + " deep, but " + deep);
        }
    }

    private void reach(String from, Set<String> all) {
        for (String to : calls.getOrDefault(from, Set.of())) {
            if (all.add(to)) {
                reach(to, all);
            }
        }
    }

    private int depthOf(String one, Map<String, Set<String>> reached, Map<String, Integer> known) {
        Integer deep = known.get(one);
        if (deep != null) {
            return deep;
        }
        int most = 0;
        for (String part : calls.keySet()) {
            boolean isSame = part.equals(one) || reached.get(one).contains(part) && reached.get(part).contains(one);
            for (String to : isSame ? calls.get(part) : Set.<String>of()) {
                if (!to.equals(one) && !reached.get(to).contains(one)) {
                    most = Math.max(most, depthOf(to, reached, known));
                }
            }
        }
        known.put(one, most + 1);
        return most + 1;
    }

    private final class Scanner extends TreePathScanner<Void, Void> {
        private String method = "";
        private boolean isMaking = true;

        @Override
        public Void scan(Tree tree, Void nothing) {
            if (tree != null) {
                must(!RULED_OUT.contains(tree.getKind()), "no " + tree.getKind() + " in " + method);
            }
            return super.scan(tree, nothing);
        }

        @Override
        public Void visitMethod(MethodTree tree, Void nothing) {
            Element element = trees.getElement(getCurrentPath());
            method = nameOf(element);
            isMaking = element.getKind() == ElementKind.CONSTRUCTOR;
            calls.put(method, new TreeSet<>());
            if (element.getModifiers().contains(Modifier.PUBLIC)) {
                published.add(method);
            }
            super.visitMethod(tree, nothing);
            method = "";
            isMaking = true;
            return null;
        }

        @Override
        public Void visitMethodInvocation(MethodInvocationTree tree, Void nothing) {
            Element called = trees.getElement(getCurrentPath());
            String name = nameOf(called);
            boolean isOwn = called.getEnclosingElement().toString().startsWith("GuessFerry");
            if (isOwn && !method.isEmpty()) {
                calls.get(method).add(name);
            } else if (!isOwn && called.getKind() != ElementKind.CONSTRUCTOR) {
                must(LIBRARY.contains(name), "the library's " + name + " is listed");
            }
            return super.visitMethodInvocation(tree, nothing);
        }

        @Override
        public Void visitNewClass(NewClassTree tree, Void nothing) {
            must(isMaking, method + " makes no object");
            must(tree.getClassBody() == null, "no class without a name");
            return super.visitNewClass(tree, nothing);
        }

        @Override
        public Void visitNewArray(NewArrayTree tree, Void nothing) {
            must(isMaking, method + " makes no array");
            return super.visitNewArray(tree, nothing);
        }

        @Override
        public Void visitVariable(VariableTree tree, Void nothing) {
            String type = trees.getElement(getCurrentPath()).asType().toString();
            must(type.matches("(int|long|byte|char|boolean)(\\[\\])?|java\\.lang\\.String|GuessFerry\\.\\w+(\\[\\])?"),
                type + " " + tree.getName() + " is of a type that is listed");
            return super.visitVariable(tree, nothing);
        }

        @Override
        public Void visitBinary(BinaryTree tree, Void nothing) {
            must(!isText(tree.getLeftOperand()) && !isText(tree.getRightOperand()),
                "no text is joined by + or compared by == in " + method);
            if (tree.getKind() == Tree.Kind.DIVIDE || tree.getKind() == Tree.Kind.REMAINDER) {
                divides(tree.getRightOperand());
            }
            return super.visitBinary(tree, nothing);
        }

        @Override
        public Void visitCompoundAssignment(CompoundAssignmentTree tree, Void nothing) {
            must(!isText(tree.getVariable()), "no text is joined by += in " + method);
            if (tree.getKind() == Tree.Kind.DIVIDE_ASSIGNMENT || tree.getKind() == Tree.Kind.REMAINDER_ASSIGNMENT) {
                divides(tree.getExpression());
            }
            return super.visitCompoundAssignment(tree, nothing);
        }

        private void divides(ExpressionTree by) {
            Element element = trees.getElement(new TreePath(getCurrentPath(), by));
            boolean isConstant = element instanceof VariableElement variable && variable.getConstantValue() != null
                && !variable.getConstantValue().equals(0);
            must(isConstant || DIVIDING.contains(method), method + " goes by a divisor that is looked at");
        }

        private boolean isText(ExpressionTree tree) {
            return trees.getTypeMirror(new TreePath(getCurrentPath(), tree)).toString().equals("java.lang.String");
        }

        private String nameOf(Element element) {
            Element type = element.getEnclosingElement();
            String owner = type instanceof TypeElement ? type.getSimpleName().toString() : type.toString();
            return owner + "." + element.getSimpleName();
        }
    }
}
