import com.sun.source.tree.ArrayAccessTree;
import com.sun.source.tree.AssertTree;
import com.sun.source.tree.AssignmentTree;
import com.sun.source.tree.BinaryTree;
import com.sun.source.tree.BlockTree;
import com.sun.source.tree.ClassTree;
import com.sun.source.tree.CompilationUnitTree;
import com.sun.source.tree.CompoundAssignmentTree;
import com.sun.source.tree.EnhancedForLoopTree;
import com.sun.source.tree.ExpressionTree;
import com.sun.source.tree.ForLoopTree;
import com.sun.source.tree.IdentifierTree;
import com.sun.source.tree.ImportTree;
import com.sun.source.tree.InstanceOfTree;
import com.sun.source.tree.LambdaExpressionTree;
import com.sun.source.tree.LiteralTree;
import com.sun.source.tree.MemberReferenceTree;
import com.sun.source.tree.MethodInvocationTree;
import com.sun.source.tree.MethodTree;
import com.sun.source.tree.NewArrayTree;
import com.sun.source.tree.NewClassTree;
import com.sun.source.tree.PackageTree;
import com.sun.source.tree.StatementTree;
import com.sun.source.tree.SwitchExpressionTree;
import com.sun.source.tree.SwitchTree;
import com.sun.source.tree.SynchronizedTree;
import com.sun.source.tree.ThrowTree;
import com.sun.source.tree.Tree;
import com.sun.source.tree.TryTree;
import com.sun.source.tree.TypeCastTree;
import com.sun.source.tree.UnaryTree;
import com.sun.source.tree.VariableTree;
import com.sun.source.tree.WhileLoopTree;
import com.sun.source.util.JavacTask;
import com.sun.source.util.TreePath;
import com.sun.source.util.TreePathScanner;
import com.sun.source.util.TreeScanner;
import com.sun.source.util.Trees;
import java.nio.file.Files;
import java.nio.file.Path;
import java.util.List;
import java.util.Map;
import java.util.Set;
import java.util.TreeMap;
import java.util.TreeSet;
import javax.lang.model.element.Element;
import javax.lang.model.element.ElementKind;
import javax.lang.model.element.ExecutableElement;
import javax.lang.model.element.Modifier;
import javax.lang.model.element.VariableElement;
import javax.tools.JavaCompiler;
import javax.tools.StandardJavaFileManager;
import javax.tools.ToolProvider;

/**
 * The rules of LANGUAGE.md, by their numbers, held against the class as javac reads it. It is stricter than the rules
 * where the class needs less than they leave. FaceTest has the rule 1.
 */
public final class LanguageTest extends TreePathScanner<Void, Void> {
    private static final Path SOURCE = Path.of("src/main/java/WombatBowls.java");
    private static final Set<String> TYPES = Set.of("int", "long", "boolean", "double", "void", "int[]", "Green", "Score",
        "State", "State[]", "Shelf", "Text");
    private static final Set<String> EXCEPTIONS = Set.of("java.lang.IllegalStateException",
        "java.lang.IllegalArgumentException", "java.lang.IndexOutOfBoundsException");
    private static final Set<String> LIBRARY = Set.of("java.lang.Math.floorDiv", "java.lang.Math.abs", "java.lang.Math.max",
        "java.lang.Integer.signum");
    /** These look at an index before they use it, or run against the length of the list itself. */
    private static final Set<String> ACCESS = Set.of("WombatBowls.at", "WombatBowls.put", "WombatBowls.copyAll",
        "WombatBowls.fillAll", "Green.<init>", "Green.placeOf", "Green.thingAt", "Score.addEnd", "Shelf.<init>",
        "Shelf.stateAt");
    private static final Set<Tree.Kind> OF_DOUBLES = Set.of(Tree.Kind.PLUS, Tree.Kind.MINUS, Tree.Kind.MULTIPLY,
        Tree.Kind.DIVIDE, Tree.Kind.LESS_THAN, Tree.Kind.GREATER_THAN, Tree.Kind.LESS_THAN_EQUAL,
        Tree.Kind.GREATER_THAN_EQUAL);

    private final CompilationUnitTree unit;
    private final Trees trees;
    private final Map<String, Set<String>> calls = new TreeMap<>();
    private final Set<String> seen = new TreeSet<>();
    private String method = "";

    private LanguageTest(CompilationUnitTree unit, Trees trees) {
        this.unit = unit;
        this.trees = trees;
    }

    public static void main(String[] args) throws Exception {
        for (char sign : Files.readString(SOURCE).toCharArray()) {
            Check.due("rules 3 and 4: a sign of the source is 10 or 32 to 126", sign == 10 || sign >= 32 && sign <= 126, true);
        }
        JavaCompiler compiler = ToolProvider.getSystemJavaCompiler();
        try (StandardJavaFileManager files = compiler.getStandardFileManager(null, null, null)) {
            JavacTask task = (JavacTask) compiler.getTask(null, files, null, List.of("-proc:none"), null,
                files.getJavaFileObjects(SOURCE));
            CompilationUnitTree unit = task.parse().iterator().next();
            task.analyze();
            LanguageTest test = new LanguageTest(unit, Trees.instance(task));
            test.scan(unit, null);
            test.checkDepth();
            for (String kind : new String[] {"class", "method", "call", "loop", "access", "division", "throw", "new", "switch"}) {
                Check.due(kind + " was met", test.seen.contains(kind), true);
            }
        }
        Check.end("LanguageTest");
    }

    private String at(Tree tree) {
        long start = trees.getSourcePositions().getStartPosition(unit, tree);
        return " (line " + unit.getLineMap().getLineNumber(start) + ", " + method + ")";
    }

    private void never(String rule, Tree tree) {
        Check.due(rule + at(tree), "there", "not there");
    }

    private void holds(String rule, Tree tree, boolean fits) {
        Check.due(rule + at(tree), fits, true);
    }

    private String typeOf(Tree tree) {
        return String.valueOf(trees.getTypeMirror(new TreePath(getCurrentPath(), tree)));
    }

    private Element elementOf(Tree tree) {
        return trees.getElement(new TreePath(getCurrentPath(), tree));
    }

    // ---- rules 1 and 2

    @Override
    public Void visitPackage(PackageTree tree, Void unused) {
        never("rule 1: no package", tree);
        return null;
    }

    @Override
    public Void visitImport(ImportTree tree, Void unused) {
        never("rule 4: no import", tree);
        return null;
    }

    @Override
    public Void visitClass(ClassTree tree, Void unused) {
        seen.add("class");
        Set<Modifier> modifiers = tree.getModifiers().getFlags();
        boolean outer = tree.getSimpleName().contentEquals("WombatBowls");
        int classes = 0;
        int fields = 0;
        for (Tree member : tree.getMembers()) {
            classes += member.getKind() == Tree.Kind.CLASS ? 1 : 0;
            if (member instanceof VariableTree) {
                fields += ((VariableTree) member).getModifiers().getFlags().contains(Modifier.STATIC) ? 0 : 1;
            }
            if (member instanceof BlockTree) {
                never("rule 5: no initialiser block", member);
            }
        }
        holds("rule 1: a class inside is private and static, or so is none", tree,
            outer || modifiers.contains(Modifier.STATIC) && modifiers.contains(Modifier.PRIVATE) && classes == 0);
        holds("rule 11: twelve classes at the most", tree, classes < 12);
        holds("rule 11: twenty fields at the most", tree, fields <= 20);
        holds("rule 6: no exception class, nothing is extended", tree,
            tree.getExtendsClause() == null && tree.getImplementsClause().isEmpty());
        return super.visitClass(tree, unused);
    }

    @Override
    public Void visitLambdaExpression(LambdaExpressionTree tree, Void unused) {
        never("rule 2: no lambda", tree);
        return null;
    }

    @Override
    public Void visitMemberReference(MemberReferenceTree tree, Void unused) {
        never("rule 2: no method reference", tree);
        return null;
    }

    // ---- rules 3 and 5: types, doubles, static fields

    @Override
    public Void visitVariable(VariableTree tree, Void unused) {
        Set<Modifier> modifiers = tree.getModifiers().getFlags();
        holds("rule 3: the type " + tree.getType(), tree, TYPES.contains(tree.getType().toString()));
        if (modifiers.contains(Modifier.STATIC)) {
            Element field = trees.getElement(getCurrentPath());
            holds("rule 5: a constant of a number", tree, modifiers.contains(Modifier.FINAL)
                && field instanceof VariableElement && ((VariableElement) field).getConstantValue() != null);
        }
        return super.visitVariable(tree, unused);
    }

    @Override
    public Void visitBinary(BinaryTree tree, Void unused) {
        String left = typeOf(tree.getLeftOperand());
        String right = typeOf(tree.getRightOperand());
        holds("rule 10: no text is joined", tree, !left.contains("String") && !right.contains("String"));
        if (left.equals("double") || right.equals("double")) {
            holds("rule 3: " + tree.getKind() + " of doubles", tree, OF_DOUBLES.contains(tree.getKind()));
        }
        if (tree.getKind() == Tree.Kind.DIVIDE || tree.getKind() == Tree.Kind.REMAINDER) {
            seen.add("division");
            checkDivisor(tree.getRightOperand(), tree);
        }
        return super.visitBinary(tree, unused);
    }

    /** Rule 7: a divisor is a constant that is not 0, or the ends, which Score.mean() looks at. */
    private void checkDivisor(ExpressionTree divisor, Tree tree) {
        Object value = divisor instanceof LiteralTree ? ((LiteralTree) divisor).getValue() : null;
        if (divisor instanceof IdentifierTree && elementOf(divisor) instanceof VariableElement) {
            value = ((VariableElement) elementOf(divisor)).getConstantValue();
        }
        boolean constant = value instanceof Number && ((Number) value).doubleValue() != 0.0;
        holds("rule 7: the divisor " + divisor, tree, constant || method.equals("Score.mean"));
    }

    @Override
    public Void visitTypeCast(TypeCastTree tree, Void unused) {
        holds("rule 6: a cast to a number", tree, Set.of("int", "long", "double").contains(tree.getType().toString()));
        return super.visitTypeCast(tree, unused);
    }

    // ---- rule 4: the library; what calls what

    @Override
    public Void visitMethodInvocation(MethodInvocationTree tree, Void unused) {
        seen.add("call");
        Element called = elementOf(tree.getMethodSelect());
        if (called != null && called.getKind() == ElementKind.CONSTRUCTOR) {
            // super() of the constructors
            return super.visitMethodInvocation(tree, unused);
        }
        String name = called == null ? "nothing" : nameOf(called);
        if (called instanceof ExecutableElement && String.valueOf(called.getEnclosingElement()).startsWith("WombatBowls")) {
            calls.computeIfAbsent(method, key -> new TreeSet<>()).add(name);
            holds("rule 12: a constructor calls no method", tree, !method.endsWith("<init>"));
        } else {
            String full = called == null ? name : called.getEnclosingElement() + "." + called.getSimpleName();
            holds("rule 4: the call of " + full, tree, LIBRARY.contains(full));
        }
        return super.visitMethodInvocation(tree, unused);
    }

    private static String nameOf(Element method) {
        return method.getEnclosingElement().getSimpleName() + "." + method.getSimpleName();
    }

    // ---- rule 6: exceptions

    @Override
    public Void visitTry(TryTree tree, Void unused) {
        never("rule 6: no try", tree);
        return null;
    }

    @Override
    public Void visitSynchronized(SynchronizedTree tree, Void unused) {
        never("rule 6: no synchronized", tree);
        return null;
    }

    @Override
    public Void visitAssert(AssertTree tree, Void unused) {
        never("rule 6: no assert", tree);
        return null;
    }

    @Override
    public Void visitInstanceOf(InstanceOfTree tree, Void unused) {
        never("rule 6: no instanceof", tree);
        return null;
    }

    @Override
    public Void visitThrow(ThrowTree tree, Void unused) {
        seen.add("throw");
        ExpressionTree thrown = tree.getExpression();
        boolean made = thrown instanceof NewClassTree;
        holds("rule 6: throw new E(..)", tree, made && !method.endsWith("<init>"));
        if (made) {
            List<? extends ExpressionTree> arguments = ((NewClassTree) thrown).getArguments();
            holds("rule 6: the exception " + typeOf(thrown), tree, EXCEPTIONS.contains(typeOf(thrown)));
            holds("rule 6: a written text", tree, arguments.size() == 1 && arguments.get(0).getKind() == Tree.Kind.STRING_LITERAL);
        }
        return super.visitThrow(tree, unused);
    }

    // ---- rules 7 and 9: indexes and loops

    @Override
    public Void visitArrayAccess(ArrayAccessTree tree, Void unused) {
        seen.add("access");
        holds("rule 7: an index is used in " + method, tree, ACCESS.contains(method));
        return super.visitArrayAccess(tree, unused);
    }

    /** A counter goes one up or down to a bound, and the body leaves it alone. */
    @Override
    public Void visitForLoop(ForLoopTree tree, Void unused) {
        seen.add("loop");
        holds("rule 9: one counter, a bound, one step", tree, tree.getInitializer().size() == 1
            && tree.getInitializer().get(0) instanceof VariableTree && tree.getCondition() != null
            && tree.getUpdate().size() == 1);
        if (tree.getInitializer().size() == 1 && tree.getInitializer().get(0) instanceof VariableTree) {
            String counter = ((VariableTree) tree.getInitializer().get(0)).getName().toString();
            holds("rule 9: the counter " + counter + " has a bound", tree, tree.getCondition().toString().matches(
                ".*\\b" + counter + " (<|<=|>=) .*"));
            holds("rule 9: the counter " + counter + " is left alone", tree, !changed(tree.getStatement()).contains(counter));
        }
        return super.visitForLoop(tree, unused);
    }

    @Override
    public Void visitEnhancedForLoop(EnhancedForLoopTree tree, Void unused) {
        holds("rule 10: for over an array", tree, typeOf(tree.getExpression()).endsWith("[]"));
        return super.visitEnhancedForLoop(tree, unused);
    }

    /** A statement of the body itself, not one inside an if, must move a number that the condition holds against a bound. */
    @Override
    public Void visitWhileLoop(WhileLoopTree tree, Void unused) {
        seen.add("loop");
        boolean bound = false;
        List<? extends StatementTree> body = tree.getStatement() instanceof BlockTree
            ? ((BlockTree) tree.getStatement()).getStatements() : List.of(tree.getStatement());
        for (StatementTree statement : body) {
            boolean moves = statement.toString().matches("\\w+(\\+\\+|--| \\+= COLUMNS);");
            for (String name : moves ? changed(statement) : Set.<String>of()) {
                bound = bound || tree.getCondition().toString().matches(".*\\b" + name + " (<|>) .*");
            }
        }
        holds("rule 9: a counter against a bound", tree, bound);
        return super.visitWhileLoop(tree, unused);
    }

    private static Set<String> changed(Tree body) {
        Set<String> found = new TreeSet<>();
        new TreeScanner<Void, Void>() {
            @Override
            public Void visitAssignment(AssignmentTree tree, Void unused) {
                found.add(tree.getVariable().toString());
                return super.visitAssignment(tree, unused);
            }

            @Override
            public Void visitCompoundAssignment(CompoundAssignmentTree tree, Void unused) {
                found.add(tree.getVariable().toString());
                return super.visitCompoundAssignment(tree, unused);
            }

            @Override
            public Void visitUnary(UnaryTree tree, Void unused) {
                if (tree.getKind().toString().endsWith("CREMENT")) {
                    found.add(tree.getExpression().toString());
                }
                return super.visitUnary(tree, unused);
            }
        }.scan(body, null);
        return found;
    }

    // ---- rule 10: switch

    @Override
    public Void visitSwitch(SwitchTree tree, Void unused) {
        seen.add("switch");
        holds("rule 10: a switch on a number", tree, typeOf(tree.getExpression()).equals("int"));
        return super.visitSwitch(tree, unused);
    }

    @Override
    public Void visitSwitchExpression(SwitchExpressionTree tree, Void unused) {
        never("rule 10: no switch as an expression", tree);
        return null;
    }

    // ---- rules 8 and 11: methods

    @Override
    public Void visitMethod(MethodTree tree, Void unused) {
        Element element = trees.getElement(getCurrentPath());
        method = nameOf(element);
        long from = unit.getLineMap().getLineNumber(trees.getSourcePositions().getStartPosition(unit, tree));
        long to = unit.getLineMap().getLineNumber(trees.getSourcePositions().getEndPosition(unit, tree));
        if (tree.getReturnType() != null) {
            seen.add("method");
            holds("rule 3: the type " + tree.getReturnType(), tree, TYPES.contains(tree.getReturnType().toString()));
            holds("rule 8: one method of a name, so that calls can be followed", tree, !calls.containsKey(method));
            calls.putIfAbsent(method, new TreeSet<>());
        }
        holds("rule 11: 60 lines at the most", tree, to - from < 60);
        holds("rule 11: seven parameters at the most", tree, tree.getParameters().size() <= 7);
        holds("rule 6: no equals, hashCode or toString", tree,
            !Set.of("equals", "hashCode", "toString").contains(tree.getName().toString()));
        super.visitMethod(tree, unused);
        method = "";
        return null;
    }

    /** Rule 8: no method calls itself, nor by way of others; rule 11: eight calls deep at the most. */
    private void checkDepth() {
        Check.due("methods were found", calls.size() > 100, true);
        Map<String, Integer> depths = new TreeMap<>();
        for (int round = 0; round < calls.size(); round++) {
            for (Map.Entry<String, Set<String>> one : calls.entrySet()) {
                int below = 0;
                for (String called : one.getValue()) {
                    below = Math.max(below, depths.getOrDefault(called, 1));
                }
                depths.put(one.getKey(), Math.min(below + 1, calls.size()));
            }
        }
        int deepest = 0;
        for (Map.Entry<String, Integer> one : depths.entrySet()) {
            deepest = Math.max(deepest, one.getValue());
            Check.due("rule 11: " + one.getKey() + " goes eight calls deep at the most", one.getValue() <= 8, true);
        }
        System.out.println("the deepest call goes " + deepest + " deep");
    }

    // ---- rule 12: objects

    @Override
    public Void visitNewClass(NewClassTree tree, Void unused) {
        seen.add("new");
        boolean thrown = getCurrentPath().getParentPath().getLeaf().getKind() == Tree.Kind.THROW;
        holds("rule 12: only constructors make what is no exception", tree, thrown || inConstructor());
        holds("rule 2: no class without a name", tree, tree.getClassBody() == null);
        return super.visitNewClass(tree, unused);
    }

    @Override
    public Void visitNewArray(NewArrayTree tree, Void unused) {
        holds("rule 12: only constructors make arrays", tree, inConstructor());
        for (ExpressionTree length : tree.getDimensions()) {
            holds("rule 7: a length of " + length, tree, length.toString().matches("[A-Z_0-9 *+]+|Math\\.max\\(size, 0\\)"));
        }
        return super.visitNewArray(tree, unused);
    }

    /** Fields are made by the constructor, too. */
    private boolean inConstructor() {
        return method.isEmpty() || method.endsWith("<init>");
    }
}
