import com.sun.source.tree.ArrayAccessTree;
import com.sun.source.tree.AssertTree;
import com.sun.source.tree.BinaryTree;
import com.sun.source.tree.ClassTree;
import com.sun.source.tree.CompilationUnitTree;
import com.sun.source.tree.CompoundAssignmentTree;
import com.sun.source.tree.DoWhileLoopTree;
import com.sun.source.tree.EnhancedForLoopTree;
import com.sun.source.tree.ExpressionTree;
import com.sun.source.tree.ForLoopTree;
import com.sun.source.tree.ImportTree;
import com.sun.source.tree.InstanceOfTree;
import com.sun.source.tree.LambdaExpressionTree;
import com.sun.source.tree.LiteralTree;
import com.sun.source.tree.MemberReferenceTree;
import com.sun.source.tree.MemberSelectTree;
import com.sun.source.tree.MethodInvocationTree;
import com.sun.source.tree.MethodTree;
import com.sun.source.tree.NewArrayTree;
import com.sun.source.tree.NewClassTree;
import com.sun.source.tree.SynchronizedTree;
import com.sun.source.tree.ThrowTree;
import com.sun.source.tree.Tree;
import com.sun.source.tree.TryTree;
import com.sun.source.tree.TypeCastTree;
import com.sun.source.tree.VariableTree;
import com.sun.source.tree.WhileLoopTree;
import com.sun.source.util.JavacTask;
import com.sun.source.util.SourcePositions;
import com.sun.source.util.TreeScanner;
import com.sun.source.util.Trees;
import java.io.IOException;
import java.nio.file.Path;
import java.util.ArrayList;
import java.util.HashSet;
import java.util.List;
import java.util.Set;
import javax.lang.model.element.Modifier;
import javax.tools.JavaCompiler;
import javax.tools.StandardJavaFileManager;
import javax.tools.ToolProvider;

/**
 * The class keeps to ../shared/LANGUAGE.md, as far as its source shows it by itself; where the class needs less than
 * a rule leaves, the test leaves less, too: no casts, no catches, no divisions, no objects outside the constructor.
 */
public final class LanguageTest {
    private static final Path SOURCE = Path.of("src", "main", "java", "Submodulary.java");
    private static final Set<String> TYPES = Set.of("int", "boolean", "int[]", "void");
    private static final Set<String> LIBRARY = Set.of(
        "Arrays.fill", "Integer.bitCount", "Math.max", "Math.min");
    private static final Set<String> THROWN = Set.of(
        "IllegalStateException", "IllegalArgumentException", "IndexOutOfBoundsException");
    /** The rows are looked into and written here alone, behind a test of the index. */
    private static final Set<String> ROWS = Set.of("at", "put");
    /** The methods that may call themselves: each carries its depth. */
    private static final Set<String> CALLING_THEMSELVES = Set.of("leastBetween", "gainsOverOrders");
    private static final int MOST_LINES = 60;
    private static final int MOST_PARAMETERS = 7;
    private static final int MOST_FIELDS = 20;
    private static final int MOST_DEEP = 8;

    private static int wrong = 0;

    private static void fail(String what) {
        wrong++;
        System.out.println(what);
    }

    private static void need(int rule, boolean is, String what) {
        if (!is) {
            fail("rule " + rule + ": " + what);
        }
    }

    /** Looks at each part of the source, and remembers in which method it stands. */
    private static final class Rules extends TreeScanner<Void, String> {
        final List<MethodTree> methods = new ArrayList<>();
        final List<VariableTree> fields = new ArrayList<>();
        int classes = 0;

        @Override
        public Void visitImport(ImportTree tree, String method) {
            need(4, tree.getQualifiedIdentifier().toString().equals("java.util.Arrays"), "import of " + tree);
            return null;
        }

        @Override
        public Void visitClass(ClassTree tree, String method) {
            classes++;
            for (Tree member : tree.getMembers()) {
                need(5, member.getKind() != Tree.Kind.BLOCK, "an initialiser block");
                if (member instanceof VariableTree) {
                    fields.add((VariableTree) member);
                }
            }
            return super.visitClass(tree, method);
        }

        @Override
        public Void visitMethod(MethodTree tree, String method) {
            methods.add(tree);
            need(11, tree.getParameters().size() <= MOST_PARAMETERS, "parameters of " + tree.getName());
            if (tree.getReturnType() != null) {
                needType(tree.getReturnType());
            }
            // the thrown names and the parameters are no part of the body
            scan(tree.getParameters(), tree.getName().toString());
            scan(tree.getBody(), tree.getName().toString());
            return null;
        }

        @Override
        public Void visitVariable(VariableTree tree, String method) {
            needType(tree.getType());
            scan(tree.getInitializer(), method);
            return null;
        }

        private void needType(Tree type) {
            need(3, TYPES.contains(type.toString()), "the type " + type);
        }

        @Override
        public Void visitMethodInvocation(MethodInvocationTree tree, String method) {
            if (tree.getMethodSelect() instanceof MemberSelectTree) {
                need(4, LIBRARY.contains(tree.getMethodSelect().toString()), "a call of " + tree.getMethodSelect());
            }
            return super.visitMethodInvocation(tree, method);
        }

        @Override
        public Void visitNewClass(NewClassTree tree, String method) {
            boolean isException = THROWN.contains(tree.getIdentifier().toString());
            boolean isWritten = tree.getArguments().stream().allMatch(each -> each.getKind() == Tree.Kind.STRING_LITERAL);
            need(6, isException && isWritten && tree.getClassBody() == null, "new in " + method + ": " + tree);
            return super.visitNewClass(tree, method);
        }

        @Override
        public Void visitNewArray(NewArrayTree tree, String method) {
            need(12, method.equals("<init>"), "an array made in " + method);
            return super.visitNewArray(tree, method);
        }

        @Override
        public Void visitThrow(ThrowTree tree, String method) {
            need(6, tree.getExpression() instanceof NewClassTree, "a throw in " + method + " of what is not new");
            need(6, !method.equals("<init>"), "a throw in the constructor");
            return super.visitThrow(tree, method);
        }

        @Override
        public Void visitArrayAccess(ArrayAccessTree tree, String method) {
            need(7, ROWS.contains(method), "an index in " + method + " beside at and put");
            return super.visitArrayAccess(tree, method);
        }

        @Override
        public Void visitBinary(BinaryTree tree, String method) {
            need(7, tree.getKind() != Tree.Kind.DIVIDE && tree.getKind() != Tree.Kind.REMAINDER, "a division in " + method);
            need(10, !isText(tree.getLeftOperand()) && !isText(tree.getRightOperand()), "a text joined in " + method);
            return super.visitBinary(tree, method);
        }

        private static boolean isText(ExpressionTree tree) {
            return tree.getKind() == Tree.Kind.STRING_LITERAL;
        }

        @Override
        public Void visitCompoundAssignment(CompoundAssignmentTree tree, String method) {
            boolean isDivision = tree.getKind() == Tree.Kind.DIVIDE_ASSIGNMENT
                || tree.getKind() == Tree.Kind.REMAINDER_ASSIGNMENT;
            need(7, !isDivision, "a division in " + method);
            return super.visitCompoundAssignment(tree, method);
        }

        @Override
        public Void visitLiteral(LiteralTree tree, String method) {
            if (tree.getValue() instanceof String) {
                need(4, tree.getValue().toString().chars().allMatch(sign -> sign >= 1 && sign <= 127), "the text " + tree);
            }
            need(7, tree.getKind() != Tree.Kind.NULL_LITERAL, "null in " + method);
            return null;
        }

        @Override
        public Void visitForLoop(ForLoopTree tree, String method) {
            need(9, tree.getCondition() != null && tree.getUpdate().size() == 1, "a loop without an end in " + method);
            return super.visitForLoop(tree, method);
        }

        @Override
        public Void visitEnhancedForLoop(EnhancedForLoopTree tree, String method) {
            return refuse(9, "a loop without a counter in " + method);
        }

        @Override
        public Void visitWhileLoop(WhileLoopTree tree, String method) {
            return refuse(9, "a loop without a counter in " + method);
        }

        @Override
        public Void visitDoWhileLoop(DoWhileLoopTree tree, String method) {
            return refuse(9, "a loop without a counter in " + method);
        }

        @Override
        public Void visitTry(TryTree tree, String method) {
            return refuse(6, "a try in " + method);
        }

        @Override
        public Void visitSynchronized(SynchronizedTree tree, String method) {
            return refuse(6, "a lock in " + method);
        }

        @Override
        public Void visitAssert(AssertTree tree, String method) {
            return refuse(6, "an assert in " + method);
        }

        @Override
        public Void visitInstanceOf(InstanceOfTree tree, String method) {
            return refuse(7, "an instanceof in " + method);
        }

        @Override
        public Void visitTypeCast(TypeCastTree tree, String method) {
            return refuse(7, "a cast in " + method);
        }

        @Override
        public Void visitLambdaExpression(LambdaExpressionTree tree, String method) {
            return refuse(2, "a lambda in " + method);
        }

        @Override
        public Void visitMemberReference(MemberReferenceTree tree, String method) {
            return refuse(2, "a method reference in " + method);
        }

        private Void refuse(int rule, String what) {
            need(rule, false, what);
            return null;
        }
    }

    // ---- the face and the fields

    private static void looksAtNames(Rules rules) {
        Set<String> names = new HashSet<>();
        for (MethodTree method : rules.methods) {
            Set<Modifier> modifiers = method.getModifiers().getFlags();
            boolean isOpen = modifiers.contains(Modifier.PUBLIC);
            need(1, isOpen || modifiers.contains(Modifier.PRIVATE), method.getName() + " is neither public nor private");
            need(1, names.add(method.getName().toString()), "the name " + method.getName() + " stands twice");
        }
        need(1, rules.classes == 1, rules.classes + " classes");
    }

    private static void looksAtFields(Rules rules) {
        int many = 0;
        for (VariableTree field : rules.fields) {
            Set<Modifier> modifiers = field.getModifiers().getFlags();
            boolean isConstant = modifiers.contains(Modifier.STATIC) && modifiers.contains(Modifier.FINAL);
            need(5, isConstant || !modifiers.contains(Modifier.STATIC), field.getName() + " is static and not final");
            need(1, isConstant || modifiers.contains(Modifier.PRIVATE), field.getName() + " is not private");
            need(5, !isConstant || field.getType().toString().equals("int"), field.getName() + " is no number");
            many += isConstant ? 0 : 1;
        }
        need(11, many <= MOST_FIELDS, many + " fields");
    }

    // ---- how long methods are, and how deep they call one another

    private static void looksAtLengths(Rules rules, CompilationUnitTree unit, SourcePositions positions) {
        for (MethodTree method : rules.methods) {
            long first = unit.getLineMap().getLineNumber(positions.getStartPosition(unit, method));
            long last = unit.getLineMap().getLineNumber(positions.getEndPosition(unit, method));
            need(11, last - first < MOST_LINES, method.getName() + " has " + (last - first + 1) + " lines");
        }
    }

    private static void looksAtCalls(Rules rules) {
        for (MethodTree method : rules.methods) {
            int deep = depth(rules, method.getName().toString(), new ArrayList<>());
            need(11, deep <= MOST_DEEP, method.getName() + " calls " + deep + " deep");
        }
    }

    /** How many methods of the class stand open at most below a call of one, its calls of itself counted once. */
    private static int depth(Rules rules, String name, List<String> open) {
        if (open.contains(name)) {
            boolean isItself = open.get(open.size() - 1).equals(name);
            need(8, isItself && CALLING_THEMSELVES.contains(name), "a round of calls: " + open + ", " + name);
            return 0;
        }
        open.add(name);
        int deepest = 0;
        for (String called : calledBy(rules, name)) {
            deepest = Math.max(deepest, depth(rules, called, open));
        }
        open.remove(open.size() - 1);
        return deepest + 1;
    }

    private static Set<String> calledBy(Rules rules, String name) {
        Set<String> called = new HashSet<>();
        Set<String> own = new HashSet<>();
        rules.methods.forEach(method -> own.add(method.getName().toString()));
        for (MethodTree method : rules.methods) {
            if (method.getName().contentEquals(name)) {
                new TreeScanner<Void, Void>() {
                    @Override
                    public Void visitMethodInvocation(MethodInvocationTree tree, Void none) {
                        if (own.contains(tree.getMethodSelect().toString())) {
                            called.add(tree.getMethodSelect().toString());
                        }
                        return super.visitMethodInvocation(tree, none);
                    }
                }.scan(method.getBody(), null);
            }
        }
        return called;
    }

    public static void main(String[] arguments) throws IOException {
        JavaCompiler compiler = ToolProvider.getSystemJavaCompiler();
        try (StandardJavaFileManager files = compiler.getStandardFileManager(null, null, null)) {
            JavacTask task = (JavacTask) compiler.getTask(null, files, null, null, null, files.getJavaFileObjects(SOURCE));
            for (CompilationUnitTree unit : task.parse()) {
                need(1, unit.getPackage() == null, "a package line");
                Rules rules = new Rules();
                rules.scan(unit, "");
                looksAtNames(rules);
                looksAtFields(rules);
                looksAtLengths(rules, unit, Trees.instance(task).getSourcePositions());
                looksAtCalls(rules);
            }
        }
        System.out.println(wrong == 0 ? "the source keeps to the language" : wrong + " things are not as the rules ask");
        if (wrong != 0) {
            System.exit(1);
        }
    }
}
