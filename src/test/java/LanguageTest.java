import com.sun.source.tree.AssertTree;
import com.sun.source.tree.BinaryTree;
import com.sun.source.tree.BlockTree;
import com.sun.source.tree.CatchTree;
import com.sun.source.tree.ClassTree;
import com.sun.source.tree.CompilationUnitTree;
import com.sun.source.tree.CompoundAssignmentTree;
import com.sun.source.tree.ExpressionTree;
import com.sun.source.tree.ImportTree;
import com.sun.source.tree.LambdaExpressionTree;
import com.sun.source.tree.LiteralTree;
import com.sun.source.tree.MemberReferenceTree;
import com.sun.source.tree.MethodInvocationTree;
import com.sun.source.tree.MethodTree;
import com.sun.source.tree.NewArrayTree;
import com.sun.source.tree.NewClassTree;
import com.sun.source.tree.PackageTree;
import com.sun.source.tree.SynchronizedTree;
import com.sun.source.tree.ThrowTree;
import com.sun.source.tree.Tree;
import com.sun.source.tree.TryTree;
import com.sun.source.tree.VariableTree;
import com.sun.source.util.JavacTask;
import com.sun.source.util.TreePath;
import com.sun.source.util.TreePathScanner;
import com.sun.source.util.Trees;
import java.nio.file.Files;
import java.nio.file.Path;
import java.util.ArrayList;
import java.util.HashMap;
import java.util.HashSet;
import java.util.List;
import java.util.Map;
import java.util.Set;
import java.util.TreeMap;
import java.util.TreeSet;
import javax.lang.model.element.Element;
import javax.lang.model.element.Modifier;
import javax.lang.model.type.TypeKind;
import javax.lang.model.type.TypeMirror;
import javax.tools.JavaCompiler;
import javax.tools.StandardJavaFileManager;
import javax.tools.ToolProvider;

/**
 * The rules of LANGUAGE.md, by their numbers, held against the class as javac reads it, as far as its text shows them.
 * It refuses what a rule forbids, and nothing that the rules leave; FaceTest has the rule 1.
 */
public final class LanguageTest extends TreePathScanner<Void, Void> {
    private static final Path SOURCE = Path.of("src/main/java/WombatBowls.java");
    private static final Set<String> THROWN = Set.of("IllegalStateException", "IllegalArgumentException",
        "IndexOutOfBoundsException", "ArithmeticException", "UnsupportedOperationException", "NoSuchElementException",
        "RuntimeException");
    private static final Set<String> LIBRARY_TYPES = Set.of("java.lang.String", "java.lang.StringBuilder",
        "java.lang.Integer", "java.util.ArrayList", "java.util.List", "java.util.Iterator", "java.lang.Iterable",
        "java.lang.Comparable");
    private static final Map<String, Set<String>> LIBRARY = new HashMap<>();
    private static final Set<String> OF_DOUBLES = Set.of("PLUS", "MINUS", "MULTIPLY", "DIVIDE", "LESS_THAN", "GREATER_THAN",
        "LESS_THAN_EQUAL", "GREATER_THAN_EQUAL", "EQUAL_TO", "NOT_EQUAL_TO");
    // "some" sixty lines, twelve classes, twenty fields
    private static final int MOST_LINES = 70;
    private static final int MOST_CLASSES = 14;
    private static final int MOST_FIELDS = 22;

    static {
        LIBRARY.put("java.lang.String", Set.of("length", "charAt", "isEmpty", "equals", "indexOf", "substring", "toCharArray"));
        LIBRARY.put("java.lang.StringBuilder", Set.of("append", "charAt", "setCharAt", "setLength", "deleteCharAt", "reverse",
            "length", "toString"));
        LIBRARY.put("java.util.ArrayList", Set.of("add", "get", "set", "remove", "size", "isEmpty", "clear", "iterator"));
        LIBRARY.put("java.util.List", Set.of("add", "get", "set", "remove", "size", "isEmpty", "clear", "iterator", "of"));
        LIBRARY.put("java.lang.System", Set.of("arraycopy"));
        LIBRARY.put("java.util.Arrays", Set.of("copyOf", "copyOfRange", "fill"));
        LIBRARY.put("java.util.Iterator", Set.of("hasNext", "next"));
        LIBRARY.put("java.lang.Iterable", Set.of("iterator"));
        LIBRARY.put("java.lang.Comparable", Set.of("compareTo"));
        LIBRARY.put("java.lang.Enum", Set.of("ordinal", "compareTo", "name"));
    }

    private final CompilationUnitTree unit;
    private final Trees trees;
    private final Map<String, Set<String>> calls = new TreeMap<>();
    private final Set<String> throwing = new HashSet<>();
    private final Set<String> trying = new HashSet<>();
    private String method = "";
    private int classes = 0;

    private LanguageTest(CompilationUnitTree unit, Trees trees) {
        this.unit = unit;
        this.trees = trees;
    }

    public static void main(String[] args) throws Exception {
        for (char sign : Files.readString(SOURCE).toCharArray()) {
            Check.due("rule 4: a sign of the source is 1 to 127", sign >= 1 && sign <= 127, true);
        }
        JavaCompiler compiler = ToolProvider.getSystemJavaCompiler();
        try (StandardJavaFileManager files = compiler.getStandardFileManager(null, null, null)) {
            JavacTask task = (JavacTask) compiler.getTask(null, files, null, List.of("-proc:none"), null,
                files.getJavaFileObjects(SOURCE));
            CompilationUnitTree unit = task.parse().iterator().next();
            task.analyze();
            LanguageTest test = new LanguageTest(unit, Trees.instance(task));
            test.scan(unit, null);
            test.checkWhole();
        }
        Check.end("LanguageTest");
    }

    private void checkWhole() {
        Check.due("methods were found", calls.size() >= 63, true);
        Check.due("rule 11: some twelve classes at the most", classes <= MOST_CLASSES, true);
        for (String one : trying) {
            Check.due("rule 6: no try in the method that holds the throw: " + one, throwing.contains(one), false);
        }
        checkDepth();
    }

    private String at(Tree tree) {
        long start = trees.getSourcePositions().getStartPosition(unit, tree);
        return " (line " + unit.getLineMap().getLineNumber(start) + ", " + method + ")";
    }

    private void never(String rule, Tree tree) {
        Check.due(rule + at(tree), "there", "not there");
    }

    private void holds(String rule, Tree tree, boolean fits) {
        Check.due(rule + at(tree), fits, true);
    }

    private TypeMirror mirrorOf(Tree tree) {
        return trees.getTypeMirror(new TreePath(getCurrentPath(), tree));
    }

    private boolean isBroken(TypeMirror type) {
        return type == null || type.getKind() == TypeKind.ERROR;
    }

    /** Without what stands in its angle brackets. */
    private static String bare(TypeMirror type) {
        return String.valueOf(type).replaceAll("<.*>", "");
    }

    private static boolean isOwn(Element element) {
        Element place = element;
        while (place != null && !place.getKind().isClass() && !place.getKind().isInterface()) {
            place = place.getEnclosingElement();
        }
        // a class without a name is an own one
        String name = String.valueOf(place);
        return name.startsWith("WombatBowls") || name.isEmpty();
    }

    // ---- rules 1 and 2

    @Override
    public Void visitPackage(PackageTree tree, Void unused) {
        never("rule 1: no package", tree);
        return null;
    }

    @Override
    public Void visitImport(ImportTree tree, Void unused) {
        String name = tree.getQualifiedIdentifier().toString();
        holds("rule 4: the import of " + name, tree, !tree.isStatic()
            && name.matches("java\\.util\\.(\\*|ArrayList|List|Iterator|Arrays|NoSuchElementException)"));
        return null;
    }

    @Override
    public Void visitClass(ClassTree tree, Void unused) {
        String outer = method;
        classes += tree.getSimpleName().length() == 0 ? 0 : 1;
        int fields = 0;
        for (Tree member : tree.getMembers()) {
            if (member instanceof VariableTree) {
                fields += ((VariableTree) member).getModifiers().getFlags().contains(Modifier.STATIC) ? 0 : 1;
            }
            if (member instanceof BlockTree) {
                holds("rule 5: no static initialiser block", member, !((BlockTree) member).isStatic());
            }
        }
        boolean constants = tree.getKind() == Tree.Kind.ENUM;
        holds("rule 11: some twenty fields at the most", tree, constants || fields <= MOST_FIELDS);
        if (tree.getExtendsClause() != null) {
            TypeMirror type = mirrorOf(tree.getExtendsClause());
            holds("rule 6: no exception class, nothing of the library is extended", tree, bare(type).startsWith("WombatBowls"));
        }
        super.visitClass(tree, unused);
        method = outer;
        return null;
    }

    @Override
    public Void visitLambdaExpression(LambdaExpressionTree tree, Void unused) {
        never("rule 2: no lambda", tree);
        return null;
    }

    @Override
    public Void visitMemberReference(MemberReferenceTree tree, Void unused) {
        never("rule 2: no method reference", tree);
        return null;
    }

    // ---- rules 3 and 5: types, doubles, static fields

    private boolean isTypeLeft(TypeMirror type) {
        String name = bare(type);
        int dimensions = 0;
        while (name.endsWith("[]")) {
            name = name.substring(0, name.length() - 2);
            dimensions++;
        }
        boolean number = Set.of("int", "long", "short", "byte", "char", "boolean", "double", "float").contains(name);
        boolean own = name.startsWith("WombatBowls") || type.getKind() == TypeKind.TYPEVAR || !name.contains(".");
        return number && dimensions <= 2 || dimensions <= 1 && (own || LIBRARY_TYPES.contains(name));
    }

    @Override
    public Void visitVariable(VariableTree tree, Void unused) {
        TypeMirror type = trees.getTypeMirror(getCurrentPath());
        boolean caught = getCurrentPath().getParentPath().getLeaf() instanceof CatchTree;
        holds("rule 3: the type " + type, tree, caught || isBroken(type) || isTypeLeft(type));
        Set<Modifier> modifiers = tree.getModifiers().getFlags();
        if (modifiers.contains(Modifier.STATIC)) {
            holds("rule 5: static is final", tree, modifiers.contains(Modifier.FINAL) || !method.isEmpty());
            if (tree.getInitializer() instanceof NewArrayTree) {
                NewArrayTree array = (NewArrayTree) tree.getInitializer();
                holds("rule 5: a static array is written out", tree, array.getInitializers() != null);
                holds("rule 5: a static array of int, long, char or byte", tree,
                    Set.of("int[]", "long[]", "char[]", "byte[]").contains(bare(type)));
            } else if (tree.getInitializer() instanceof NewClassTree) {
                holds("rule 5: no static object but constants of an enum", tree,
                    getCurrentPath().getParentPath().getLeaf().getKind() == Tree.Kind.ENUM);
            }
        }
        return super.visitVariable(tree, unused);
    }

    @Override
    public Void visitBinary(BinaryTree tree, Void unused) {
        String left = bare(mirrorOf(tree.getLeftOperand()));
        String right = bare(mirrorOf(tree.getRightOperand()));
        boolean text = left.equals("java.lang.String") || right.equals("java.lang.String");
        boolean ofNull = left.equals("<nulltype>") || right.equals("<nulltype>") || tree.toString().contains("null");
        holds("rules 6 and 10: no " + tree.getKind() + " of texts", tree, !text || ofNull && tree.getKind() != Tree.Kind.PLUS);
        if (List.of(left, right).contains("double") || List.of(left, right).contains("float")) {
            holds("rule 3: " + tree.getKind() + " of doubles", tree, OF_DOUBLES.contains(tree.getKind().toString()));
        }
        return super.visitBinary(tree, unused);
    }

    @Override
    public Void visitCompoundAssignment(CompoundAssignmentTree tree, Void unused) {
        holds("rule 10: no text is joined", tree, !bare(mirrorOf(tree.getVariable())).equals("java.lang.String"));
        return super.visitCompoundAssignment(tree, unused);
    }

    // ---- rule 4: the library; what calls what

    @Override
    public Void visitMethodInvocation(MethodInvocationTree tree, Void unused) {
        Element called = trees.getElement(new TreePath(getCurrentPath(), tree.getMethodSelect()));
        if (called != null) {
            String name = called.getSimpleName().toString();
            String place = String.valueOf(called.getEnclosingElement());
            boolean ofObject = place.equals("java.lang.Object") || place.equals("java.lang.Enum")
                || place.equals("java.lang.Record");
            if (isOwn(called)) {
                calls.computeIfAbsent(method, key -> new TreeSet<>()).add(nameOf(called));
            } else if (!name.equals("<init>")) {
                boolean copy = name.equals("clone") && (ofObject || place.equals("Array"));
                holds("rule 4: the call of " + place + "." + name, tree, copy || isCallLeft(place, name));
            }
        }
        return super.visitMethodInvocation(tree, unused);
    }

    private static boolean isCallLeft(String place, String name) {
        boolean numbers = Set.of("java.lang.Math", "java.lang.Integer", "java.lang.Long").contains(place);
        if (numbers) {
            return !name.endsWith("Exact") && !Set.of("random", "sqrt", "pow", "floor", "ceil", "round", "rint").contains(name);
        }
        return LIBRARY.getOrDefault(place.replaceAll("<.*>", ""), Set.of()).contains(name);
    }

    private static String nameOf(Element method) {
        return method.getEnclosingElement() + "." + method.getSimpleName();
    }

    @Override
    public Void visitNewClass(NewClassTree tree, Void unused) {
        TypeMirror type = mirrorOf(tree.getIdentifier());
        String name = bare(type);
        boolean left = name.startsWith("WombatBowls") || !name.contains(".")
            || Set.of("java.lang.String", "java.lang.StringBuilder", "java.util.ArrayList").contains(name);
        boolean thrown = getCurrentPath().getParentPath().getLeaf() instanceof ThrowTree;
        boolean of = tree.getClassBody() != null && LIBRARY_TYPES.contains(name);
        holds("rules 3 and 4: new " + name, tree, isBroken(type) || thrown || left || of);
        return super.visitNewClass(tree, unused);
    }

    // ---- rule 6: exceptions

    @Override
    public Void visitTry(TryTree tree, Void unused) {
        trying.add(method);
        holds("rule 6: no finally", tree, tree.getFinallyBlock() == null);
        holds("rule 6: no try with resources", tree, tree.getResources().isEmpty());
        for (CatchTree one : tree.getCatches()) {
            for (String name : one.getParameter().getType().toString().split(" \\| ")) {
                holds("rule 6: a catch of " + name, one, THROWN.contains(name.replaceAll(".*\\.", "")));
            }
            holds("rule 6: a catch leaves the exception alone", one,
                !one.getBlock().toString().matches("(?s).*\\b" + one.getParameter().getName() + "\\b.*"));
        }
        return super.visitTry(tree, unused);
    }

    @Override
    public Void visitSynchronized(SynchronizedTree tree, Void unused) {
        never("rule 6: no synchronized", tree);
        return null;
    }

    @Override
    public Void visitAssert(AssertTree tree, Void unused) {
        never("rule 6: no assert", tree);
        return null;
    }

    @Override
    public Void visitThrow(ThrowTree tree, Void unused) {
        throwing.add(method);
        holds("rule 6: no throw in a constructor", tree, !method.endsWith("<init>"));
        if (tree.getExpression() instanceof NewClassTree) {
            NewClassTree made = (NewClassTree) tree.getExpression();
            String name = bare(mirrorOf(made)).replaceAll(".*\\.", "");
            holds("rule 6: the exception " + name, tree, THROWN.contains(name));
            for (ExpressionTree argument : made.getArguments()) {
                holds("rule 6: a written text", tree, argument instanceof LiteralTree);
            }
        } else {
            never("rule 6: throw without new", tree);
        }
        return super.visitThrow(tree, unused);
    }

    // ---- rules 8 and 11: methods

    @Override
    public Void visitMethod(MethodTree tree, Void unused) {
        method = nameOf(trees.getElement(getCurrentPath()));
        long from = unit.getLineMap().getLineNumber(Math.max(0, trees.getSourcePositions().getStartPosition(unit, tree)));
        long to = unit.getLineMap().getLineNumber(Math.max(0, trees.getSourcePositions().getEndPosition(unit, tree)));
        calls.computeIfAbsent(method, key -> new TreeSet<>());
        holds("rule 11: some sixty lines at the most", tree, to - from < MOST_LINES);
        holds("rule 11: seven parameters at the most", tree, tree.getParameters().size() <= 7 || method.endsWith("<init>"));
        holds("rule 6: no equals, hashCode or toString", tree,
            !Set.of("equals", "hashCode", "toString").contains(tree.getName().toString()));
        holds("rule 6: no synchronized", tree, !tree.getModifiers().getFlags().contains(Modifier.SYNCHRONIZED));
        super.visitMethod(tree, unused);
        method = "";
        return null;
    }

    /** Rule 11: calls that are no recursion go eight deep at the most; methods that call one another count as one. */
    private void checkDepth() {
        List<String> names = new ArrayList<>(calls.keySet());
        boolean[][] reaches = new boolean[names.size()][names.size()];
        for (int from = 0; from < names.size(); from++) {
            for (String called : calls.get(names.get(from))) {
                if (names.contains(called)) {
                    reaches[from][names.indexOf(called)] = true;
                }
            }
        }
        boolean[][] direct = new boolean[names.size()][];
        for (int from = 0; from < names.size(); from++) {
            direct[from] = reaches[from].clone();
        }
        for (int by = 0; by < names.size(); by++) {
            for (int from = 0; from < names.size(); from++) {
                for (int to = 0; to < names.size(); to++) {
                    reaches[from][to] = reaches[from][to] || reaches[from][by] && reaches[by][to];
                }
            }
        }
        int[] depths = new int[names.size()];
        for (int round = 0; round < names.size(); round++) {
            for (int from = 0; from < names.size(); from++) {
                depths[from] = Math.max(depths[from], 1);
                for (int to = 0; to < names.size(); to++) {
                    if (direct[from][to]) {
                        depths[from] = Math.max(depths[from], depths[to] + (reaches[to][from] ? 0 : 1));
                    }
                }
            }
        }
        int deepest = 0;
        for (int from = 0; from < names.size(); from++) {
            deepest = Math.max(deepest, depths[from]);
            Check.due("rule 11: " + names.get(from) + " goes eight calls deep at the most", depths[from] <= 8, true);
        }
        System.out.println("the deepest call goes " + deepest + " deep");
    }
}
