import com.sun.source.tree.AssignmentTree;
import com.sun.source.tree.BinaryTree;
import com.sun.source.tree.ClassTree;
import com.sun.source.tree.CompilationUnitTree;
import com.sun.source.tree.CompoundAssignmentTree;
import com.sun.source.tree.DoWhileLoopTree;
import com.sun.source.tree.ExpressionTree;
import com.sun.source.tree.ForLoopTree;
import com.sun.source.tree.IdentifierTree;
import com.sun.source.tree.MethodInvocationTree;
import com.sun.source.tree.MethodTree;
import com.sun.source.tree.NewClassTree;
import com.sun.source.tree.StatementTree;
import com.sun.source.tree.ThrowTree;
import com.sun.source.tree.Tree;
import com.sun.source.tree.Tree.Kind;
import com.sun.source.tree.UnaryTree;
import com.sun.source.tree.VariableTree;
import com.sun.source.tree.WhileLoopTree;
import com.sun.source.util.JavacTask;
import com.sun.source.util.TreePath;
import com.sun.source.util.TreePathScanner;
import com.sun.source.util.Trees;
import java.io.IOException;
import java.nio.file.Path;
import java.util.HashMap;
import java.util.List;
import java.util.Map;
import java.util.Set;
import java.util.TreeMap;
import java.util.TreeSet;
import javax.lang.model.element.Element;
import javax.lang.model.element.ElementKind;
import javax.tools.JavaCompiler;
import javax.tools.StandardJavaFileManager;
import javax.tools.ToolProvider;

/**
 * What the compiler can tell of LANGUAGE.md: the library that is used, how deep calls go, how each loop ends. Where
 * the program needs no more, it is stricter than the rules: no recursion, no division, loops by for alone.
 */
public final class LanguageTest {
    private static final int DEEPEST = 8;
    private static final Set<String> EXCEPTIONS = Set.of("IllegalStateException", "IllegalArgumentException",
            "IndexOutOfBoundsException", "ArithmeticException", "UnsupportedOperationException",
            "java.util.NoSuchElementException", "RuntimeException");
    private static final String BUILDER = "append\\((char|java\\.lang\\.String|int)\\)|charAt\\(.*|setCharAt\\(.*"
            + "|setLength\\(.*|deleteCharAt\\(.*|reverse\\(.*|length\\(.*|toString\\(.*|StringBuilder\\(\\)";
    private static final String NUMBERS = "(?!\\w*Exact\\()\\w+\\(((int|long)(,(int|long))*)?\\)";
    private static final Map<String, String> LIBRARY = Map.of(
            "java.lang.String", "(length|charAt|isEmpty|equals|substring|toCharArray)\\(.*|indexOf\\(int\\)"
                    + "|String\\(char\\[\\]\\)",
            "java.lang.StringBuilder", BUILDER,
            "java.lang.AbstractStringBuilder", BUILDER,
            "java.lang.Math", NUMBERS,
            "java.lang.Integer", NUMBERS,
            "java.lang.Long", NUMBERS,
            "java.lang.System", "arraycopy\\(.*",
            "java.util.Arrays", "(copyOf|copyOfRange|fill)\\(.*");

    private LanguageTest() {
    }

    /** The second argument: the path of Twinindex.java. */
    public static void main(String[] args) throws IOException {
        JavaCompiler compiler = ToolProvider.getSystemJavaCompiler();
        try (StandardJavaFileManager files = compiler.getStandardFileManager(null, null, null)) {
            JavacTask task = (JavacTask) compiler.getTask(null, files, null, List.of("-proc:none"), null,
                    files.getJavaFileObjects(Path.of(args[1])));
            Iterable<? extends CompilationUnitTree> units = task.parse();
            task.analyze();
            Looks looks = new Looks(Trees.instance(task));
            looks.scan(units, null);
            looks.end();
        }
        Check.end("LanguageTest");
    }

    private static void holds(int rule, String what, boolean isSo) {
        Check.same("LANGUAGE.md, rule " + rule + ": " + what, isSo, true);
    }

    private static final class Looks extends TreePathScanner<Void, Void> {
        private final Trees trees;
        private final Map<String, Set<String>> calls = new TreeMap<>();
        private final Map<String, Integer> depths = new HashMap<>();
        private final Set<String> open = new TreeSet<>();
        private String method = "";
        private boolean isConstructor;
        private int classes;

        Looks(Trees trees) {
            this.trees = trees;
        }

        void end() {
            holds(11, "twelve classes at most", classes <= 12);
            for (String each : calls.keySet()) {
                holds(11, each + " goes " + depth(each) + " calls deep", depth(each) <= DEEPEST);
            }
        }

        /** How many calls stand open at most, with this one; far above what is allowed if it comes again. */
        private int depth(String call) {
            if (!open.add(call)) {
                return 1000;
            }
            Integer known = depths.get(call);
            int deepest = 0;
            for (String inner : known != null ? Set.<String>of() : calls.getOrDefault(call, Set.of())) {
                deepest = Math.max(deepest, depth(inner));
            }
            open.remove(call);
            depths.putIfAbsent(call, deepest + 1);
            return depths.get(call);
        }

        private Element element(Tree tree) {
            return trees.getElement(new TreePath(getCurrentPath(), tree));
        }

        private String type(Tree tree) {
            return String.valueOf(trees.getTypeMirror(new TreePath(getCurrentPath(), tree)));
        }

        private static String name(Element call) {
            return call.getEnclosingElement() + "." + call;
        }

        @Override
        public Void visitClass(ClassTree tree, Void none) {
            classes++;
            return super.visitClass(tree, none);
        }

        @Override
        public Void visitMethod(MethodTree tree, Void none) {
            Element here = trees.getElement(getCurrentPath());
            method = name(here);
            isConstructor = here.getKind() == ElementKind.CONSTRUCTOR;
            calls.putIfAbsent(method, new TreeSet<>());
            return super.visitMethod(tree, none);
        }

        @Override
        public Void visitMethodInvocation(MethodInvocationTree tree, Void none) {
            called(trees.getElement(getCurrentPath()));
            return super.visitMethodInvocation(tree, none);
        }

        @Override
        public Void visitNewClass(NewClassTree tree, Void none) {
            if (getCurrentPath().getParentPath().getLeaf().getKind() != Kind.THROW) {
                called(trees.getElement(getCurrentPath()));
            }
            return super.visitNewClass(tree, none);
        }

        private void called(Element call) {
            // The compiler writes super() into each constructor.
            if (name(call).equals("java.lang.Object.Object()")) {
                return;
            }
            String owner = call.getEnclosingElement().toString();
            calls.computeIfAbsent(method, any -> new TreeSet<>()).add(name(call));
            if (!owner.startsWith("Twinindex")) {
                holds(4, method + " calls " + name(call), call.toString().matches(LIBRARY.getOrDefault(owner, "")));
            }
        }

        @Override
        public Void visitThrow(ThrowTree tree, Void none) {
            holds(6, method + " throws a new exception", tree.getExpression().getKind() == Kind.NEW_CLASS
                    && EXCEPTIONS.contains(((NewClassTree) tree.getExpression()).getIdentifier().toString()));
            holds(6, method + " throws in no constructor", !isConstructor);
            return super.visitThrow(tree, none);
        }

        @Override
        public Void visitBinary(BinaryTree tree, Void none) {
            boolean isEqual = tree.getKind() == Kind.EQUAL_TO || tree.getKind() == Kind.NOT_EQUAL_TO;
            boolean isText = isBoxOrText(tree.getLeftOperand()) || isBoxOrText(tree.getRightOperand());
            holds(tree.getKind() == Kind.PLUS ? 10 : 6, method + ": " + tree,
                    !isText || !isEqual && tree.getKind() != Kind.PLUS);
            boolean isDivision = tree.getKind() == Kind.DIVIDE || tree.getKind() == Kind.REMAINDER;
            holds(7, method + " divides: " + tree, !isDivision);
            return super.visitBinary(tree, none);
        }

        private boolean isBoxOrText(Tree operand) {
            return type(operand).equals("java.lang.String") || type(operand).equals("java.lang.Integer");
        }

        @Override
        public Void visitWhileLoop(WhileLoopTree tree, Void none) {
            holds(9, method + " counts each loop: " + tree, false);
            return super.visitWhileLoop(tree, none);
        }

        @Override
        public Void visitDoWhileLoop(DoWhileLoopTree tree, Void none) {
            holds(9, method + " counts each loop: " + tree, false);
            return super.visitDoWhileLoop(tree, none);
        }

        /** A counter of its own, which goes one step each time, and nothing else changes. */
        @Override
        public Void visitForLoop(ForLoopTree tree, Void none) {
            String head = method + ", the loop's head: " + tree.getInitializer() + " " + tree.getCondition();
            boolean isPlain = tree.getInitializer().size() == 1 && tree.getUpdate().size() == 1
                    && tree.getInitializer().get(0) instanceof VariableTree
                    && tree.getCondition() instanceof BinaryTree;
            holds(9, head, isPlain);
            if (isPlain) {
                String counter = ((VariableTree) tree.getInitializer().get(0)).getName().toString();
                BinaryTree condition = (BinaryTree) tree.getCondition();
                StatementTree update = tree.getUpdate().get(0);
                boolean isUp = condition.getKind() == Kind.LESS_THAN || condition.getKind() == Kind.LESS_THAN_EQUAL;
                boolean isDown = condition.getKind() == Kind.GREATER_THAN
                        || condition.getKind() == Kind.GREATER_THAN_EQUAL;
                holds(9, head + " has its counter", condition.getLeftOperand().toString().equals(counter));
                holds(9, head + " goes to its end", isUp && update.toString().equals(counter + "++;")
                        || isDown && update.toString().equals(counter + "--;"));
                holds(9, head + " counts alone", !new Changes(counter).areIn(tree.getStatement()));
            }
            return super.visitForLoop(tree, none);
        }
    }

    /** Whether a variable is changed. */
    private static final class Changes extends com.sun.source.util.TreeScanner<Boolean, Void> {
        private final String name;

        Changes(String name) {
            this.name = name;
        }

        boolean areIn(StatementTree body) {
            return Boolean.TRUE.equals(scan(body, null));
        }

        private boolean isIt(ExpressionTree changed) {
            return changed instanceof IdentifierTree && ((IdentifierTree) changed).getName().contentEquals(name);
        }

        @Override
        public Boolean reduce(Boolean one, Boolean other) {
            return Boolean.TRUE.equals(one) || Boolean.TRUE.equals(other);
        }

        @Override
        public Boolean visitAssignment(AssignmentTree tree, Void none) {
            return reduce(isIt(tree.getVariable()), super.visitAssignment(tree, none));
        }

        @Override
        public Boolean visitCompoundAssignment(CompoundAssignmentTree tree, Void none) {
            return reduce(isIt(tree.getVariable()), super.visitCompoundAssignment(tree, none));
        }

        @Override
        public Boolean visitUnary(UnaryTree tree, Void none) {
            boolean isChange = Set.of(Kind.PREFIX_INCREMENT, Kind.PREFIX_DECREMENT, Kind.POSTFIX_INCREMENT,
                    Kind.POSTFIX_DECREMENT).contains(tree.getKind());
            return reduce(isChange && isIt(tree.getExpression()), super.visitUnary(tree, none));
        }
    }
}
