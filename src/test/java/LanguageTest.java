import com.sun.source.tree.ArrayAccessTree;
import com.sun.source.tree.AssertTree;
import com.sun.source.tree.BinaryTree;
import com.sun.source.tree.CatchTree;
import com.sun.source.tree.ClassTree;
import com.sun.source.tree.CompilationUnitTree;
import com.sun.source.tree.ExpressionTree;
import com.sun.source.tree.ImportTree;
import com.sun.source.tree.LambdaExpressionTree;
import com.sun.source.tree.LiteralTree;
import com.sun.source.tree.MemberReferenceTree;
import com.sun.source.tree.MemberSelectTree;
import com.sun.source.tree.MethodInvocationTree;
import com.sun.source.tree.MethodTree;
import com.sun.source.tree.NewClassTree;
import com.sun.source.tree.SynchronizedTree;
import com.sun.source.tree.ThrowTree;
import com.sun.source.tree.Tree;
import com.sun.source.tree.TryTree;
import com.sun.source.tree.TypeCastTree;
import com.sun.source.tree.VariableTree;
import com.sun.source.tree.WhileLoopTree;
import com.sun.source.util.JavacTask;
import com.sun.source.util.TreeScanner;
import java.io.IOException;
import java.nio.file.Files;
import java.nio.file.Path;
import java.util.List;
import java.util.Map;
import java.util.Set;
import java.util.TreeMap;
import java.util.TreeSet;
import javax.lang.model.element.Modifier;
import javax.tools.JavaCompiler;
import javax.tools.StandardJavaFileManager;
import javax.tools.ToolProvider;

/** What of ../shared/LANGUAGE.md can be seen in the source's tree: each rule is told by its number. */
public final class LanguageTest extends TreeScanner<Void, Void> {
    private static final Path SOURCE = Path.of("src/main/java/Boringhead.java");
    private static final Set<String> EXCEPTIONS = Set.of("IllegalStateException", "IllegalArgumentException",
            "IndexOutOfBoundsException", "ArithmeticException", "UnsupportedOperationException", "NoSuchElementException");
    private static final Set<String> LIBRARY = Set.of("java.util.ArrayList", "built.size", "built.get", "built.add", "built.isEmpty",
            "houses.size", "houses.get", "houses.add", "soil.boreholes.size", "soil.boreholes.add", "boreholes.size", "boreholes.get",
            "CAUSES.clone", "Math.max", "Math.min", "Math.abs");
    private static final Set<String> INDEXING = Set.of("at/2", "put/3", "fill/4", "letterAt/2", "indexIn/2", "isWornOut/0", "wear/1",
            "putFirst/1", "allWaits/0", "<init>/0");
    private static final Set<String> DIVIDING = Set.of("doubt/1 by all", "sunkBy/4 by divisor");
    private static final int MOST_LINES = 60;
    private static final int MOST_PARAMETERS = 7;
    private static final int MOST_CLASSES = 12;
    private static final int MOST_FIELDS = 20;
    private static final int MOST_DEEP = 8;

    private final Map<String, Set<String>> calls = new TreeMap<>();
    private String method = "";
    private int classes = 0;

    public static void main(String[] args) throws IOException {
        signs(Files.readString(SOURCE));
        LanguageTest test = new LanguageTest();
        JavaCompiler compiler = ToolProvider.getSystemJavaCompiler();
        try (StandardJavaFileManager files = compiler.getStandardFileManager(null, null, null)) {
            JavacTask task = (JavacTask) compiler.getTask(null, files, null, null, null, files.getJavaFileObjects(SOURCE));
            for (CompilationUnitTree unit : task.parse()) {
                test.scan(unit, null);
            }
        }
        test.whole();
        Check.end();
    }

    private static void signs(String source) {
        for (int i = 0; i < source.length(); i++) {
            Check.same("rule 4: a sign from 1 to 127 at " + i, source.charAt(i) >= 1 && source.charAt(i) <= 127, true);
        }
    }

    private void tell(String rule, Tree tree) {
        Check.tell(rule + ", in " + method + ": " + tree);
    }

    @Override
    public Void visitImport(ImportTree tree, Void none) {
        if (!LIBRARY.contains(tree.getQualifiedIdentifier().toString())) {
            tell("rule 4", tree);
        }
        return super.visitImport(tree, none);
    }

    @Override
    public Void visitClass(ClassTree tree, Void none) {
        Set<Modifier> flags = tree.getModifiers().getFlags();
        boolean isOuter = classes == 0;
        classes++;
        if (!isOuter && !(flags.contains(Modifier.PRIVATE) && flags.contains(Modifier.STATIC))) {
            Check.tell("rule 1, the class " + tree.getSimpleName());
        }
        int fields = 0;
        for (Tree member : tree.getMembers()) {
            fields += isField(member) ? 1 : 0;
        }
        if (fields > MOST_FIELDS) {
            Check.tell("rule 11, " + fields + " fields of " + tree.getSimpleName());
        }
        return super.visitClass(tree, none);
    }

    private static boolean isField(Tree member) {
        return member instanceof VariableTree field && !field.getModifiers().getFlags().contains(Modifier.STATIC);
    }

    @Override
    public Void visitVariable(VariableTree tree, Void none) {
        Set<Modifier> flags = tree.getModifiers().getFlags();
        if (flags.contains(Modifier.STATIC) && !flags.contains(Modifier.FINAL)) {
            tell("rule 5", tree);
        }
        return super.visitVariable(tree, none);
    }

    @Override
    public Void visitMethod(MethodTree tree, Void none) {
        method = tree.getName() + "/" + tree.getParameters().size();
        if (calls.put(method, new TreeSet<>()) != null && !tree.getName().contentEquals("<init>")) {
            tell("two methods of one name and as many parameters can't be told apart here", tree);
        }
        if (tree.getParameters().size() > MOST_PARAMETERS) {
            tell("rule 11, parameters", tree);
        }
        if (tree.toString().strip().split("\n").length > MOST_LINES) {
            tell("rule 11, lines", tree);
        }
        return super.visitMethod(tree, none);
    }

    @Override
    public Void visitMethodInvocation(MethodInvocationTree tree, Void none) {
        ExpressionTree select = tree.getMethodSelect();
        String name = select instanceof MemberSelectTree member ? member.getIdentifier().toString() : select.toString();
        if (!LIBRARY.contains(select.toString()) && calls.containsKey(method)) {
            calls.get(method).add(name + "/" + tree.getArguments().size());
        }
        return super.visitMethodInvocation(tree, none);
    }

    @Override
    public Void visitThrow(ThrowTree tree, Void none) {
        boolean isNew = tree.getExpression() instanceof NewClassTree made && EXCEPTIONS.contains(made.getIdentifier().toString())
                && made.getArguments().size() == 1 && made.getArguments().get(0) instanceof LiteralTree;
        if (!isNew || method.startsWith("<init>")) {
            tell("rule 6", tree);
        }
        return super.visitThrow(tree, none);
    }

    @Override
    public Void visitTry(TryTree tree, Void none) {
        tell("rule 6: nothing is to be caught", tree);
        return super.visitTry(tree, none);
    }

    @Override
    public Void visitCatch(CatchTree tree, Void none) {
        tell("rule 6: nothing is to be caught", tree);
        return super.visitCatch(tree, none);
    }

    @Override
    public Void visitSynchronized(SynchronizedTree tree, Void none) {
        tell("rule 6", tree);
        return super.visitSynchronized(tree, none);
    }

    @Override
    public Void visitAssert(AssertTree tree, Void none) {
        tell("rule 6", tree);
        return super.visitAssert(tree, none);
    }

    @Override
    public Void visitLambdaExpression(LambdaExpressionTree tree, Void none) {
        tell("rule 2", tree);
        return super.visitLambdaExpression(tree, none);
    }

    @Override
    public Void visitMemberReference(MemberReferenceTree tree, Void none) {
        tell("rule 2", tree);
        return super.visitMemberReference(tree, none);
    }

    @Override
    public Void visitWhileLoop(WhileLoopTree tree, Void none) {
        tell("rule 9: a for loop shows its end", tree);
        return super.visitWhileLoop(tree, none);
    }

    @Override
    public Void visitTypeCast(TypeCastTree tree, Void none) {
        if (!List.of("long", "float", "double").contains(tree.getType().toString())) {
            tell("rule 6, a cast", tree);
        }
        return super.visitTypeCast(tree, none);
    }

    /** An index is used only where it is looked at first; this can't see whether it is, but where to look. */
    @Override
    public Void visitArrayAccess(ArrayAccessTree tree, Void none) {
        if (!INDEXING.contains(method)) {
            tell("rule 7, an index", tree);
        }
        return super.visitArrayAccess(tree, none);
    }

    /** A divisor is written out, a constant, a float, or one of those that are known to be looked at first. */
    @Override
    public Void visitBinary(BinaryTree tree, Void none) {
        boolean divides = tree.getKind() == Tree.Kind.DIVIDE || tree.getKind() == Tree.Kind.REMAINDER;
        String divisor = tree.getRightOperand().toString();
        boolean isSafe = divisor.matches("[1-9][0-9]*|[A-Z_]+|\\(float\\).*|\\(double\\).*")
                || DIVIDING.contains(method + " by " + divisor);
        if (divides && !isSafe) {
            tell("rule 7, a divisor", tree);
        }
        if (tree.getKind() == Tree.Kind.PLUS && (isText(tree.getLeftOperand()) || isText(tree.getRightOperand()))) {
            tell("rule 10", tree);
        }
        return super.visitBinary(tree, none);
    }

    private static boolean isText(ExpressionTree tree) {
        return tree.getKind() == Tree.Kind.STRING_LITERAL;
    }

    // ---- what only the whole shows

    private void whole() {
        Check.same("rule 11: at most " + MOST_CLASSES + " classes, there are " + classes, classes <= MOST_CLASSES, true);
        for (String name : calls.keySet()) {
            int deep = deep(name, 1);
            Check.same("rule 11: " + name + " calls at most " + MOST_DEEP + " deep", deep <= MOST_DEEP, true);
        }
        for (Set<String> names : calls.values()) {
            for (String name : names) {
                Check.same("rule 4: of the class is " + name, calls.containsKey(name), true);
            }
        }
    }

    /** How many calls stand open at most, this one among them; recursion shows as more than can be. */
    private int deep(String name, int open) {
        int most = open;
        if (open <= MOST_DEEP) {
            for (String next : calls.getOrDefault(name, Set.of())) {
                most = Math.max(most, deep(next, open + 1));
            }
        }
        return most;
    }
}
