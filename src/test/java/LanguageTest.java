import com.sun.source.tree.BinaryTree;
import com.sun.source.tree.BlockTree;
import com.sun.source.tree.ClassTree;
import com.sun.source.tree.CompilationUnitTree;
import com.sun.source.tree.CompoundAssignmentTree;
import com.sun.source.tree.DoWhileLoopTree;
import com.sun.source.tree.EnhancedForLoopTree;
import com.sun.source.tree.ExpressionTree;
import com.sun.source.tree.ForLoopTree;
import com.sun.source.tree.LambdaExpressionTree;
import com.sun.source.tree.LiteralTree;
import com.sun.source.tree.MemberReferenceTree;
import com.sun.source.tree.MethodInvocationTree;
import com.sun.source.tree.MethodTree;
import com.sun.source.tree.NewArrayTree;
import com.sun.source.tree.NewClassTree;
import com.sun.source.tree.ParenthesizedTree;
import com.sun.source.tree.SwitchTree;
import com.sun.source.tree.SynchronizedTree;
import com.sun.source.tree.ThrowTree;
import com.sun.source.tree.Tree;
import com.sun.source.tree.TryTree;
import com.sun.source.tree.TypeCastTree;
import com.sun.source.tree.UnaryTree;
import com.sun.source.tree.VariableTree;
import com.sun.source.tree.WhileLoopTree;
import com.sun.source.util.JavacTask;
import com.sun.source.util.TreePath;
import com.sun.source.util.TreePathScanner;
import com.sun.source.util.Trees;
import java.io.IOException;
import java.nio.file.Path;
import java.util.HashMap;
import java.util.HashSet;
import java.util.LinkedHashMap;
import java.util.LinkedHashSet;
import java.util.List;
import java.util.Map;
import java.util.Set;
import javax.lang.model.element.Element;
import javax.lang.model.element.ElementKind;
import javax.lang.model.element.ExecutableElement;
import javax.lang.model.element.Modifier;
import javax.lang.model.element.VariableElement;
import javax.lang.model.type.TypeMirror;
import javax.tools.JavaCompiler;
import javax.tools.StandardJavaFileManager;
import javax.tools.ToolProvider;

/**
 * The class keeps to LANGUAGE.md, as far as the source tells it. The class uses less than the rules allow, so what is
 * asked here is narrower in places: whoever needs more of what a rule allows widens the test.
 */
public final class LanguageTest extends TreePathScanner<Void, Void> {
    private static final Path SOURCE = Path.of("src/main/java/ThermoscopeGallery.java");
    private static final String FACE = "ThermoscopeGallery";
    private static final Set<String> TYPES = Set.of("int", "byte", "boolean", "float", "double", "void", "int[]",
            "byte[]", "boolean[]", "java.lang.String", "java.lang.StringBuilder");
    private static final Set<String> LIBRARY = Set.of("java.lang.String.length()", "java.lang.String.charAt(int)",
            "java.lang.StringBuilder.append(char)", "java.lang.StringBuilder.append(int)",
            "java.lang.StringBuilder.charAt(int)", "java.lang.StringBuilder.setLength(int)",
            "java.lang.StringBuilder.length()", "java.lang.Math.abs(int)", "java.lang.Math.min(int,int)",
            "java.lang.Math.max(int,int)",
            "java.lang.System.arraycopy(java.lang.Object,int,java.lang.Object,int,int)");
    private static final Set<String> EXCEPTIONS = Set.of("IllegalStateException", "IllegalArgumentException",
            "IndexOutOfBoundsException", "NoSuchElementException");
    private static final int MOST_PARAMETERS = 7;
    private static final int MOST_LINES = 60;
    private static final int MOST_LEVELS = 8;
    private static final int MOST_CLASSES = 12;
    private static final int MOST_FIELDS = 20;

    private final Trees trees;
    private final CompilationUnitTree unit;
    private final Map<String, Set<String>> calls = new LinkedHashMap<>();
    private final Set<String> makers = new HashSet<>();
    private final Set<String> publicNames = new HashSet<>();
    private int classes = 0;

    private LanguageTest(Trees itsTrees, CompilationUnitTree itsUnit) {
        trees = itsTrees;
        unit = itsUnit;
    }

    public static void main(String[] args) throws IOException {
        JavaCompiler compiler = ToolProvider.getSystemJavaCompiler();
        try (StandardJavaFileManager files = compiler.getStandardFileManager(null, null, null)) {
            JavacTask task = (JavacTask) compiler.getTask(null, files, null, List.of("-proc:none"), null,
                    files.getJavaFileObjects(SOURCE));
            CompilationUnitTree unit = task.parse().iterator().next();
            task.analyze();
            LanguageTest test = new LanguageTest(Trees.instance(task), unit);
            test.findPublicNames();
            test.scan(new TreePath(unit), null);
            test.theFile();
            test.chainsOfCalls();
            test.makersOfObjects();
        }
        Checks.finish("LanguageTest");
    }

    private void forbid(String rule, boolean broken, Tree tree) {
        long line = unit.getLineMap().getLineNumber(trees.getSourcePositions().getStartPosition(unit, tree));
        Checks.is("rule " + rule + ", broken in line " + line, broken, false);
    }

    private static String nameOf(Element element) {
        // Some methods of StringBuilder are declared above it.
        return (element.getEnclosingElement() + "." + element).replace("AbstractStringBuilder", "StringBuilder");
    }

    /** The method or constructor that holds what is looked at; null for a field's first value. */
    private TreePath holder() {
        TreePath path = getCurrentPath();
        while (path != null && !(path.getLeaf() instanceof MethodTree)) {
            path = path.getParentPath();
        }
        return path;
    }

    private String holderName() {
        TreePath path = holder();
        return path == null ? "a field" : nameOf(trees.getElement(path));
    }

    // ---- Rule 1: the file and its members ----

    private void findPublicNames() {
        for (Tree member : ((ClassTree) unit.getTypeDecls().get(0)).getMembers()) {
            if (member instanceof MethodTree method && method.getModifiers().getFlags().contains(Modifier.PUBLIC)) {
                publicNames.add(method.getName().toString());
            }
        }
    }

    private void theFile() {
        Checks.is("rule 1: no package line", unit.getPackageName() == null, true);
        Checks.is("rule 1: classes outside", unit.getTypeDecls().size(), 1);
        Checks.is("rule 4: imports", unit.getImports().toString().trim(), "import java.util.NoSuchElementException;");
        Checks.is("rule 11: classes, at most " + MOST_CLASSES, classes <= MOST_CLASSES, true);
    }

    @Override
    public Void visitClass(ClassTree tree, Void nothing) {
        classes++;
        Set<Modifier> flags = tree.getModifiers().getFlags();
        boolean outside = tree.getSimpleName().contentEquals(FACE);
        Set<Modifier> due = outside ? Set.of(Modifier.PUBLIC, Modifier.FINAL)
                : Set.of(Modifier.PRIVATE, Modifier.STATIC, Modifier.FINAL);
        forbid("1 and 2: a class's modifiers", !flags.equals(due), tree);
        forbid("2: a class that is no plain one", tree.getKind() != Tree.Kind.CLASS, tree);
        forbid("2: a class above another", tree.getExtendsClause() != null
                || !tree.getImplementsClause().isEmpty(), tree);
        int fields = 0;
        for (Tree member : tree.getMembers()) {
            forbid("5: a block among the members", member instanceof BlockTree, member);
            if (member instanceof VariableTree field) {
                boolean constant = field.getModifiers().getFlags().contains(Modifier.STATIC);
                fields += constant ? 0 : 1;
                member("1: a field", field, field.getModifiers().getFlags(), outside);
                forbid("5: a static field", constant && !isConstant(field), field);
            } else if (member instanceof MethodTree method) {
                member("1: a method", method, method.getModifiers().getFlags(), outside);
            }
        }
        forbid("11: fields", fields > MOST_FIELDS, tree);
        return super.visitClass(tree, nothing);
    }

    /** Outside, a member is public or private; inside, it is private or package-visible. */
    private void member(String rule, Tree tree, Set<Modifier> flags, boolean outside) {
        boolean open = flags.contains(Modifier.PUBLIC);
        forbid(rule, flags.contains(Modifier.PROTECTED), tree);
        forbid(rule, outside ? open == flags.contains(Modifier.PRIVATE) : open, tree);
    }

    private boolean isConstant(VariableTree field) {
        VariableElement element = (VariableElement) trees.getElement(new TreePath(getCurrentPath(), field));
        return element.getConstantValue() != null;
    }

    // ---- Rules 3, 6 and 11: methods, types and exceptions ----

    @Override
    public Void visitMethod(MethodTree tree, Void nothing) {
        ExecutableElement method = (ExecutableElement) trees.getElement(getCurrentPath());
        calls.putIfAbsent(nameOf(method), new LinkedHashSet<>());
        boolean open = method.getModifiers().contains(Modifier.PUBLIC);
        forbid("1: a hidden method bears a public one's name", !open
                && publicNames.contains(tree.getName().toString()) && method.getKind() == ElementKind.METHOD, tree);
        forbid("11: parameters", tree.getParameters().size() > MOST_PARAMETERS, tree);
        long first = unit.getLineMap().getLineNumber(trees.getSourcePositions().getStartPosition(unit, tree));
        long last = unit.getLineMap().getLineNumber(trees.getSourcePositions().getEndPosition(unit, tree));
        forbid("11: lines of a method", last - first + 1 > MOST_LINES, tree);
        type(method.getReturnType(), tree);
        return super.visitMethod(tree, nothing);
    }

    @Override
    public Void visitVariable(VariableTree tree, Void nothing) {
        type(trees.getElement(getCurrentPath()).asType(), tree);
        return super.visitVariable(tree, nothing);
    }

    private void type(TypeMirror type, Tree tree) {
        String name = type.toString();
        boolean own = name.matches(FACE + "\\.\\w+(\\[\\])?");
        forbid("3: the type " + name, !own && !TYPES.contains(name), tree);
    }

    @Override
    public Void visitThrow(ThrowTree tree, Void nothing) {
        boolean written = tree.getExpression() instanceof NewClassTree made
                && EXCEPTIONS.contains(made.getIdentifier().toString())
                && made.getArguments().size() == 1 && made.getArguments().get(0) instanceof LiteralTree;
        forbid("6: what is thrown", !written, tree);
        forbid("6: a throw in a constructor", trees.getElement(holder()).getKind() == ElementKind.CONSTRUCTOR, tree);
        return super.visitThrow(tree, nothing);
    }

    @Override
    public Void visitTry(TryTree tree, Void nothing) {
        forbid("6: try", true, tree);
        return super.visitTry(tree, nothing);
    }

    @Override
    public Void visitSynchronized(SynchronizedTree tree, Void nothing) {
        forbid("6: synchronized", true, tree);
        return super.visitSynchronized(tree, nothing);
    }

    // ---- Rules 2, 4, 10 and 12: expressions ----

    @Override
    public Void visitLambdaExpression(LambdaExpressionTree tree, Void nothing) {
        forbid("2: a lambda", true, tree);
        return super.visitLambdaExpression(tree, nothing);
    }

    @Override
    public Void visitMemberReference(MemberReferenceTree tree, Void nothing) {
        forbid("2: a method reference", true, tree);
        return super.visitMemberReference(tree, nothing);
    }

    @Override
    public Void visitSwitch(SwitchTree tree, Void nothing) {
        forbid("10: a switch, which the class does without", true, tree);
        return super.visitSwitch(tree, nothing);
    }

    @Override
    public Void visitMethodInvocation(MethodInvocationTree tree, Void nothing) {
        Element called = trees.getElement(getCurrentPath());
        String name = nameOf(called);
        boolean constructorsOwn = name.equals("java.lang.Object.Object()");
        forbid("4: the call of " + name, !name.startsWith(FACE) && !LIBRARY.contains(name) && !constructorsOwn, tree);
        if (!constructorsOwn) {
            calls.computeIfAbsent(holderName(), key -> new LinkedHashSet<>()).add(name);
        }
        return super.visitMethodInvocation(tree, nothing);
    }

    @Override
    public Void visitNewClass(NewClassTree tree, Void nothing) {
        String type = tree.getIdentifier().toString();
        forbid("2: a class without a name", tree.getClassBody() != null, tree);
        if (!EXCEPTIONS.contains(type)) {
            makers.add(holderName());
            forbid("4: new " + type, !type.equals("StringBuilder") && !Set.of("Gallery", "Tube", "SetupReader")
                    .contains(type), tree);
            Element made = trees.getElement(getCurrentPath());
            calls.computeIfAbsent(holderName(), key -> new LinkedHashSet<>()).add(nameOf(made));
        }
        return super.visitNewClass(tree, nothing);
    }

    @Override
    public Void visitNewArray(NewArrayTree tree, Void nothing) {
        makers.add(holderName());
        forbid("3: an array's dimensions", tree.getDimensions().size() != 1, tree);
        return super.visitNewArray(tree, nothing);
    }

    @Override
    public Void visitTypeCast(TypeCastTree tree, Void nothing) {
        forbid("6: a cast to another type than a number's", !trees.getTypeMirror(
                new TreePath(getCurrentPath(), tree.getType())).getKind().isPrimitive(), tree);
        return super.visitTypeCast(tree, nothing);
    }

    @Override
    public Void visitBinary(BinaryTree tree, Void nothing) {
        forbid("10: texts joined by +", tree.getKind() == Tree.Kind.PLUS
                && (isText(tree.getLeftOperand()) || isText(tree.getRightOperand())), tree);
        boolean compares = tree.getKind() == Tree.Kind.EQUAL_TO || tree.getKind() == Tree.Kind.NOT_EQUAL_TO;
        forbid("6: texts compared by ==", compares
                && (isText(tree.getLeftOperand()) || isText(tree.getRightOperand())), tree);
        boolean divides = tree.getKind() == Tree.Kind.DIVIDE || tree.getKind() == Tree.Kind.REMAINDER;
        forbid("7: a divisor that nothing tests", divides && !isTested(tree.getRightOperand()), tree);
        return super.visitBinary(tree, nothing);
    }

    @Override
    public Void visitCompoundAssignment(CompoundAssignmentTree tree, Void nothing) {
        forbid("7: a division as an assignment", tree.getKind() == Tree.Kind.DIVIDE_ASSIGNMENT
                || tree.getKind() == Tree.Kind.REMAINDER_ASSIGNMENT, tree);
        forbid("10: texts joined by +=", isText(tree.getVariable()), tree);
        return super.visitCompoundAssignment(tree, nothing);
    }

    private boolean isText(ExpressionTree tree) {
        TypeMirror type = trees.getTypeMirror(new TreePath(getCurrentPath(), tree));
        return type != null && type.toString().equals("java.lang.String");
    }

    /** A divisor is a number above 0, or the method has an if with it, a comparison and 0. */
    private boolean isTested(ExpressionTree divisor) {
        if (divisor instanceof LiteralTree literal) {
            return literal.getValue() instanceof Integer number && number > 0;
        }
        String name = (divisor instanceof TypeCastTree cast ? cast.getExpression() : divisor).toString();
        TreePath path = holder();
        return path != null && ((MethodTree) path.getLeaf()).getBody().toString()
                .matches("(?s).*if \\(" + name.replace(".", "\\.") + " (<=|==) 0\\b.*");
    }

    // ---- Rule 9: loops ----

    @Override
    public Void visitForLoop(ForLoopTree tree, Void nothing) {
        forbid("9: a for without a bound", tree.getCondition() == null || tree.getUpdate().size() != 1
                || !(tree.getUpdate().get(0).getExpression() instanceof UnaryTree
                || tree.getUpdate().get(0).getExpression() instanceof CompoundAssignmentTree), tree);
        return super.visitForLoop(tree, nothing);
    }

    @Override
    public Void visitWhileLoop(WhileLoopTree tree, Void nothing) {
        String condition = ((ParenthesizedTree) tree.getCondition()).getExpression().toString();
        String counter = tree.getStatement().toString().replaceAll("[{}\\s]", "");
        // The only whiles of the class go on in the text.
        forbid("9: a while without a bound", !counter.matches("(start|end)\\+\\+;")
                || !condition.contains(counter.replace("++;", "") + " < length"), tree);
        return super.visitWhileLoop(tree, nothing);
    }

    @Override
    public Void visitDoWhileLoop(DoWhileLoopTree tree, Void nothing) {
        forbid("9: a do, which the class does without", true, tree);
        return super.visitDoWhileLoop(tree, nothing);
    }

    @Override
    public Void visitEnhancedForLoop(EnhancedForLoopTree tree, Void nothing) {
        forbid("12: a for over a list", !trees.getTypeMirror(new TreePath(getCurrentPath(), tree.getExpression()))
                .toString().endsWith("[]"), tree);
        return super.visitEnhancedForLoop(tree, nothing);
    }

    // ---- Rules 8, 11 and 12: who calls whom ----

    private void chainsOfCalls() {
        Map<String, Integer> levels = new HashMap<>();
        for (String method : calls.keySet()) {
            int deep = levels(method, levels, new LinkedHashSet<>());
            Checks.is("rule 11: calls below " + method + ": " + deep, deep <= MOST_LEVELS, true);
        }
        Checks.is("rule 11: the methods were found", calls.size() > 100, true);
    }

    /** The longest chain of calls from here on, the library's own methods counted as one. */
    private int levels(String method, Map<String, Integer> known, Set<String> open) {
        Checks.is("rule 8: " + method + " calls itself through " + open, open.contains(method), false);
        if (known.containsKey(method) || open.contains(method)) {
            return known.getOrDefault(method, 0);
        }
        open.add(method);
        int most = 0;
        for (String called : calls.getOrDefault(method, Set.of())) {
            most = Math.max(most, levels(called, known, open));
        }
        open.remove(method);
        known.put(method, most + 1);
        return most + 1;
    }

    /** Objects and arrays are made while a new object is made, and never later. */
    private void makersOfObjects() {
        Set<String> reached = new HashSet<>();
        for (String method : calls.keySet()) {
            if (method.startsWith(FACE + ".") && publicNames.contains(method.replaceAll(".*\\.|\\(.*", ""))) {
                reach(method, reached);
            }
        }
        for (String maker : makers) {
            Checks.is("rule 12: a call of the face reaches " + maker, reached.contains(maker), false);
        }
        Checks.is("rule 12: the makers were found", makers.size() > 3, true);
    }

    private void reach(String method, Set<String> reached) {
        if (reached.add(method)) {
            calls.getOrDefault(method, Set.of()).forEach(called -> reach(called, reached));
        }
    }
}
