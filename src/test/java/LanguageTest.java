import com.sun.source.tree.AnnotationTree;
import com.sun.source.tree.ArrayAccessTree;
import com.sun.source.tree.AssertTree;
import com.sun.source.tree.AssignmentTree;
import com.sun.source.tree.BinaryTree;
import com.sun.source.tree.BlockTree;
import com.sun.source.tree.ClassTree;
import com.sun.source.tree.CompilationUnitTree;
import com.sun.source.tree.CompoundAssignmentTree;
import com.sun.source.tree.ConditionalExpressionTree;
import com.sun.source.tree.DoWhileLoopTree;
import com.sun.source.tree.EnhancedForLoopTree;
import com.sun.source.tree.ExpressionTree;
import com.sun.source.tree.ForLoopTree;
import com.sun.source.tree.IfTree;
import com.sun.source.tree.ImportTree;
import com.sun.source.tree.LambdaExpressionTree;
import com.sun.source.tree.MemberReferenceTree;
import com.sun.source.tree.MethodInvocationTree;
import com.sun.source.tree.MethodTree;
import com.sun.source.tree.NewArrayTree;
import com.sun.source.tree.NewClassTree;
import com.sun.source.tree.ParenthesizedTree;
import com.sun.source.tree.SynchronizedTree;
import com.sun.source.tree.ThrowTree;
import com.sun.source.tree.Tree;
import com.sun.source.tree.TryTree;
import com.sun.source.tree.TypeCastTree;
import com.sun.source.tree.UnaryTree;
import com.sun.source.tree.VariableTree;
import com.sun.source.tree.WhileLoopTree;
import com.sun.source.util.JavacTask;
import com.sun.source.util.TreePath;
import com.sun.source.util.TreePathScanner;
import com.sun.source.util.Trees;
import java.io.IOException;
import java.nio.file.Files;
import java.nio.file.Path;
import java.util.ArrayList;
import java.util.HashSet;
import java.util.List;
import java.util.Map;
import java.util.Set;
import java.util.TreeMap;
import java.util.TreeSet;
import javax.lang.model.element.Element;
import javax.lang.model.element.ElementKind;
import javax.lang.model.element.Modifier;
import javax.lang.model.element.VariableElement;
import javax.lang.model.type.ArrayType;
import javax.lang.model.type.DeclaredType;
import javax.lang.model.type.TypeKind;
import javax.lang.model.type.TypeMirror;
import javax.tools.JavaCompiler;
import javax.tools.StandardJavaFileManager;
import javax.tools.ToolProvider;

/**
 * The rules of LANGUAGE.md by their numbers, as far as the tree that javac makes of the source tells them. Another
 * file than the class may be named, to see that a rule which it breaks is found.
 */
public final class LanguageTest extends TreePathScanner<Void, Void> {
    private static final String CLASS = "src/main/java/LookTimes.java";
    private static final int MOST_CLASSES = 12;
    private static final int MOST_FIELDS = 20;
    private static final int MOST_PARAMETERS = 7;
    private static final int MOST_LINES = 60;
    private static final int MOST_DEEP = 8;
    private static final Set<String> LIBRARY = Set.of("String.length", "String.charAt", "String.isEmpty",
        "String.equals", "String.indexOf", "String.substring", "String.toCharArray", "StringBuilder.append",
        "StringBuilder.charAt", "StringBuilder.setCharAt", "StringBuilder.setLength", "StringBuilder.deleteCharAt",
        "StringBuilder.reverse", "StringBuilder.length", "StringBuilder.toString", "System.arraycopy",
        "Arrays.copyOf", "Arrays.copyOfRange", "Arrays.fill", "ArrayList.add", "ArrayList.get", "ArrayList.set",
        "ArrayList.remove", "ArrayList.size", "ArrayList.isEmpty", "ArrayList.clear");
    private static final Set<String> STATICS = Set.of("Integer", "Long", "Math");
    private static final Set<String> OBJECTS = Set.of("java.lang.String", "java.lang.StringBuilder",
        "java.util.ArrayList", "java.util.List");

    private final CompilationUnitTree unit;
    private final Trees trees;
    private final Map<String, Set<String>> calls = new TreeMap<>();
    private final Set<String> withDepth = new HashSet<>();
    private String method = "";
    private int classes;
    private int loops;

    private LanguageTest(CompilationUnitTree unit, Trees trees) {
        this.unit = unit;
        this.trees = trees;
    }

    public static void main(String[] args) throws IOException {
        Path file = Path.of(args.length > 0 ? args[0] : CLASS);
        String source = Files.readString(file);
        Check.yes("rule 4: characters 10 and 32 to 126 alone", source.matches("(?s)[\n -~]*"));
        JavaCompiler javac = ToolProvider.getSystemJavaCompiler();
        try (StandardJavaFileManager files = javac.getStandardFileManager(null, null, null)) {
            JavacTask task = (JavacTask) javac.getTask(null, files, null, List.of("-proc:none"), null,
                files.getJavaFileObjects(file));
            CompilationUnitTree unit = task.parse().iterator().next();
            task.analyze();
            LanguageTest test = new LanguageTest(unit, Trees.instance(task));
            test.scan(unit, null);
            test.close();
        }
        Check.close("LanguageTest");
    }

    private void rule(int number, String what, Tree tree, boolean kept) {
        long place = trees.getSourcePositions().getStartPosition(unit, tree);
        long line = place < 0 ? 0 : unit.getLineMap().getLineNumber(place);
        Check.yes("rule " + number + ", line " + line + ": " + what, kept);
    }

    private void never(int number, String what, Tree tree) {
        rule(number, what, tree, false);
    }

    private void close() {
        Check.yes("rule 11: " + classes + " classes", classes <= MOST_CLASSES);
        for (String from : calls.keySet()) {
            Set<String> reached = new HashSet<>();
            reach(from, reached);
            Check.yes("rule 8: " + from + " calls itself without carrying its depth",
                !reached.contains(from) || withDepth.contains(from));
            List<String> way = longest(from, new HashSet<>());
            Check.yes("rule 11: calls go " + way.size() + " deep: " + way, way.size() <= MOST_DEEP);
        }
    }

    private void reach(String from, Set<String> reached) {
        for (String to : calls.getOrDefault(from, Set.of())) {
            if (reached.add(to)) {
                reach(to, reached);
            }
        }
    }

    /** The longest way of calls in which none comes twice. */
    private List<String> longest(String from, Set<String> open) {
        List<String> best = new ArrayList<>();
        open.add(from);
        for (String to : calls.getOrDefault(from, Set.of())) {
            if (!open.contains(to)) {
                List<String> way = longest(to, open);
                best = way.size() > best.size() ? way : best;
            }
        }
        open.remove(from);
        best.add(0, from);
        return best;
    }

    // ---- what elements and types are

    private Element elementOf(Tree tree) {
        return trees.getElement(TreePath.getPath(unit, tree));
    }

    private TypeMirror typeOf(Tree tree) {
        return trees.getTypeMirror(TreePath.getPath(unit, tree));
    }

    private static boolean isOwn(Element type) {
        Element outermost = type;
        while (outermost.getEnclosingElement().getKind() != ElementKind.PACKAGE) {
            outermost = outermost.getEnclosingElement();
        }
        return outermost.getSimpleName().contentEquals("LookTimes");
    }

    private static boolean isText(TypeMirror type) {
        return type != null && type.toString().equals("java.lang.String");
    }

    private boolean isAllowed(TypeMirror type, int dimensions) {
        if (type.getKind().isPrimitive()) {
            return dimensions < 2 || dimensions == 2 && type.getKind() != TypeKind.BOOLEAN;
        }
        if (type instanceof ArrayType) {
            return isAllowed(((ArrayType) type).getComponentType(), dimensions + 1);
        }
        if (type instanceof DeclaredType) {
            Element element = ((DeclaredType) type).asElement();
            return isOwn(element) && dimensions < 2 || dimensions == 0 && OBJECTS.contains(element.toString());
        }
        return false;
    }

    private static boolean isConstant(Element element) {
        return element instanceof VariableElement && ((VariableElement) element).getConstantValue() != null;
    }

    // ---- rules 1 to 5: classes, types, library, static fields

    @Override
    public Void visitImport(ImportTree tree, Void none) {
        rule(4, tree.toString(), tree, tree.toString().matches("import java\\.util\\.(ArrayList|List|Arrays|Iterator);\\s*"));
        return super.visitImport(tree, none);
    }

    @Override
    public Void visitClass(ClassTree tree, Void none) {
        Tree around = getCurrentPath().getParentPath().getLeaf();
        classes++;
        rule(2, "a local or nameless class", tree, around instanceof ClassTree || around instanceof CompilationUnitTree);
        boolean still = tree.getKind() != Tree.Kind.CLASS || tree.getModifiers().getFlags().contains(Modifier.STATIC);
        rule(2, tree.getSimpleName() + " isn't static", tree, still || around instanceof CompilationUnitTree);
        int fields = 0;
        for (Tree member : tree.getMembers()) {
            boolean field = member instanceof VariableTree;
            fields += field && !((VariableTree) member).getModifiers().getFlags().contains(Modifier.STATIC) ? 1 : 0;
        }
        rule(11, tree.getSimpleName() + " has " + fields + " fields", tree, fields <= MOST_FIELDS);
        return super.visitClass(tree, none);
    }

    @Override
    public Void visitLambdaExpression(LambdaExpressionTree tree, Void none) {
        never(2, "a lambda", tree);
        return super.visitLambdaExpression(tree, none);
    }

    @Override
    public Void visitMemberReference(MemberReferenceTree tree, Void none) {
        never(2, "a method reference", tree);
        return super.visitMemberReference(tree, none);
    }

    @Override
    public Void visitVariable(VariableTree tree, Void none) {
        rule(3, "the type of " + tree.getName(), tree, isAllowed(typeOf(tree), 0));
        if (tree.getModifiers().getFlags().contains(Modifier.STATIC)) {
            rule(5, tree.getName() + " isn't final", tree, tree.getModifiers().getFlags().contains(Modifier.FINAL));
            boolean row = tree.getInitializer() instanceof NewArrayTree
                && ((NewArrayTree) tree.getInitializer()).getInitializers() != null;
            rule(5, tree.getName() + " is no constant", tree, row || isConstant(elementOf(tree)));
        }
        return super.visitVariable(tree, none);
    }

    @Override
    public Void visitBlock(BlockTree tree, Void none) {
        rule(5, "a block of a class", tree, !(getCurrentPath().getParentPath().getLeaf() instanceof ClassTree));
        return super.visitBlock(tree, none);
    }

    @Override
    public Void visitAssignment(AssignmentTree tree, Void none) {
        keepsConstants(tree.getVariable());
        return super.visitAssignment(tree, none);
    }

    private void keepsConstants(ExpressionTree changed) {
        ExpressionTree of = changed instanceof ArrayAccessTree ? ((ArrayAccessTree) changed).getExpression() : changed;
        Element element = elementOf(of);
        rule(5, "a static field is changed", changed, element == null || !element.getModifiers().contains(Modifier.STATIC));
    }

    @Override
    public Void visitUnary(UnaryTree tree, Void none) {
        if (tree.getKind().name().contains("CREMENT")) {
            keepsConstants(tree.getExpression());
        }
        return super.visitUnary(tree, none);
    }

    // ---- rule 4, and who calls whom

    @Override
    public Void visitMethodInvocation(MethodInvocationTree tree, Void none) {
        Element called = elementOf(tree.getMethodSelect());
        Element type = called.getEnclosingElement();
        if (isOwn(type)) {
            calls.computeIfAbsent(method, k -> new TreeSet<>()).add(nameOf(called));
        } else {
            called(tree, called.getSimpleName().toString(), type.getSimpleName().toString());
        }
        return super.visitMethodInvocation(tree, none);
    }

    private void called(MethodInvocationTree tree, String name, String type) {
        boolean counted = STATICS.contains(type) && !name.endsWith("Exact") && isWhole(tree)
            && tree.getArguments().stream().allMatch(this::isWhole);
        boolean copied = name.equals("clone");
        String joined = type.equals("List") ? "ArrayList" : type;
        boolean made = tree.toString().equals("super()");
        rule(4, type + "." + name, tree, made || counted || copied || LIBRARY.contains(joined + "." + name));
    }

    private boolean isWhole(ExpressionTree tree) {
        TypeKind kind = typeOf(tree).getKind();
        return kind == TypeKind.INT || kind == TypeKind.LONG;
    }

    private static String nameOf(Element called) {
        return called.getEnclosingElement().getSimpleName() + "." + called;
    }

    @Override
    public Void visitAnnotation(AnnotationTree tree, Void none) {
        never(4, "an annotation", tree);
        return super.visitAnnotation(tree, none);
    }

    @Override
    public Void visitNewClass(NewClassTree tree, Void none) {
        rule(2, "a nameless class", tree, tree.getClassBody() == null);
        rule(3, "a new " + tree.getIdentifier(), tree, isAllowed(typeOf(tree), 0));
        rule(12, "a new object in a loop", tree, loops == 0);
        return super.visitNewClass(tree, none);
    }

    @Override
    public Void visitNewArray(NewArrayTree tree, Void none) {
        rule(3, "a new array", tree, isAllowed(typeOf(tree), 0));
        rule(12, "a new array in a loop", tree, loops == 0);
        return super.visitNewArray(tree, none);
    }

    // ---- rule 6

    @Override
    public Void visitThrow(ThrowTree tree, Void none) {
        never(6, "throw", tree);
        return super.visitThrow(tree, none);
    }

    @Override
    public Void visitTry(TryTree tree, Void none) {
        never(6, "try", tree);
        return super.visitTry(tree, none);
    }

    @Override
    public Void visitSynchronized(SynchronizedTree tree, Void none) {
        never(6, "synchronized", tree);
        return super.visitSynchronized(tree, none);
    }

    @Override
    public Void visitAssert(AssertTree tree, Void none) {
        never(6, "assert", tree);
        return super.visitAssert(tree, none);
    }

    @Override
    public Void visitTypeCast(TypeCastTree tree, Void none) {
        // Casts among own classes would be fine behind a test; there are none, and none goes by unseen.
        rule(6, "a cast to " + tree.getType(), tree, typeOf(tree).getKind().isPrimitive());
        return super.visitTypeCast(tree, none);
    }

    // ---- rules 6, 7 and 10: signs

    @Override
    public Void visitBinary(BinaryTree tree, Void none) {
        boolean same = tree.getKind() == Tree.Kind.EQUAL_TO || tree.getKind() == Tree.Kind.NOT_EQUAL_TO;
        boolean texts = isText(typeOf(tree.getLeftOperand())) || isText(typeOf(tree.getRightOperand()));
        rule(6, "texts compared by ==", tree, !same || !texts);
        rule(10, "texts joined by +", tree, tree.getKind() != Tree.Kind.PLUS || !texts);
        if (tree.getKind() == Tree.Kind.DIVIDE || tree.getKind() == Tree.Kind.REMAINDER) {
            rule(7, "divided by " + tree.getRightOperand(), tree, isLookedAt(tree.getRightOperand()));
        }
        return super.visitBinary(tree, none);
    }

    /** A divisor that is a number written out, or stands in a condition around the division. */
    private boolean isLookedAt(ExpressionTree divisor) {
        if (divisor.getKind() == Tree.Kind.INT_LITERAL) {
            return !divisor.toString().equals("0");
        }
        for (Tree around : getCurrentPath()) {
            ExpressionTree condition = around instanceof IfTree ? ((IfTree) around).getCondition()
                : around instanceof ConditionalExpressionTree ? ((ConditionalExpressionTree) around).getCondition() : null;
            if (condition != null && condition.toString().matches(".*\\b" + divisor + " (==|!=|>) 0\\b.*")) {
                return true;
            }
        }
        return false;
    }

    @Override
    public Void visitCompoundAssignment(CompoundAssignmentTree tree, Void none) {
        keepsConstants(tree.getVariable());
        rule(10, "texts joined by +=", tree, !isText(typeOf(tree.getVariable())));
        boolean divides = tree.getKind() == Tree.Kind.DIVIDE_ASSIGNMENT || tree.getKind() == Tree.Kind.REMAINDER_ASSIGNMENT;
        rule(7, "divided by " + tree.getExpression(), tree, !divides || isLookedAt(tree.getExpression()));
        return super.visitCompoundAssignment(tree, none);
    }

    // ---- rules 9 and 11: loops and methods

    @Override
    public Void visitWhileLoop(WhileLoopTree tree, Void none) {
        ends(tree, ((ParenthesizedTree) tree.getCondition()).getExpression());
        loops++;
        super.visitWhileLoop(tree, none);
        loops--;
        return null;
    }

    @Override
    public Void visitDoWhileLoop(DoWhileLoopTree tree, Void none) {
        ends(tree, ((ParenthesizedTree) tree.getCondition()).getExpression());
        loops++;
        super.visitDoWhileLoop(tree, none);
        loops--;
        return null;
    }

    @Override
    public Void visitForLoop(ForLoopTree tree, Void none) {
        ends(tree, tree.getCondition());
        loops++;
        super.visitForLoop(tree, none);
        loops--;
        return null;
    }

    @Override
    public Void visitEnhancedForLoop(EnhancedForLoopTree tree, Void none) {
        rule(12, "a loop over a list by its iterator", tree, typeOf(tree.getExpression()) instanceof ArrayType);
        loops++;
        super.visitEnhancedForLoop(tree, none);
        loops--;
        return null;
    }

    /** A counter is compared with a bound, in whatever else the condition has. */
    private void ends(Tree loop, ExpressionTree condition) {
        rule(9, "a loop without a bound", loop, condition != null && condition.toString().matches(".*(<|>|<=|>=) .*"));
    }

    @Override
    public Void visitMethod(MethodTree tree, Void none) {
        String around = method;
        method = nameOf(elementOf(tree));
        calls.computeIfAbsent(method, k -> new TreeSet<>());
        rule(11, method + " takes " + tree.getParameters().size(), tree, tree.getParameters().size() <= MOST_PARAMETERS);
        rule(6, method + " throws", tree, tree.getThrows().isEmpty());
        TypeMirror answer = tree.getReturnType() == null ? null : typeOf(tree.getReturnType());
        boolean typed = answer == null || answer.getKind() == TypeKind.VOID || isAllowed(answer, 0);
        rule(3, "what " + method + " answers", tree, typed);
        rule(11, method + " is long", tree, lines(tree) <= MOST_LINES);
        if (tree.getParameters().stream().anyMatch(p -> p.getName().contentEquals("depth"))) {
            withDepth.add(method);
        }
        super.visitMethod(tree, none);
        method = around;
        return null;
    }

    private long lines(Tree tree) {
        long from = trees.getSourcePositions().getStartPosition(unit, tree);
        long to = trees.getSourcePositions().getEndPosition(unit, tree);
        return from < 0 || to < 0 ? 0 : unit.getLineMap().getLineNumber(to) - unit.getLineMap().getLineNumber(from) + 1;
    }
}
