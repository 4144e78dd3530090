import com.sun.source.tree.AssertTree;
import com.sun.source.tree.BinaryTree;
import com.sun.source.tree.BlockTree;
import com.sun.source.tree.CatchTree;
import com.sun.source.tree.ClassTree;
import com.sun.source.tree.CompilationUnitTree;
import com.sun.source.tree.DoWhileLoopTree;
import com.sun.source.tree.ExpressionTree;
import com.sun.source.tree.ForLoopTree;
import com.sun.source.tree.IdentifierTree;
import com.sun.source.tree.LambdaExpressionTree;
import com.sun.source.tree.LineMap;
import com.sun.source.tree.LiteralTree;
import com.sun.source.tree.MemberReferenceTree;
import com.sun.source.tree.MemberSelectTree;
import com.sun.source.tree.MethodInvocationTree;
import com.sun.source.tree.MethodTree;
import com.sun.source.tree.NewClassTree;
import com.sun.source.tree.ParenthesizedTree;
import com.sun.source.tree.SynchronizedTree;
import com.sun.source.tree.ThrowTree;
import com.sun.source.tree.Tree;
import com.sun.source.tree.TryTree;
import com.sun.source.tree.VariableTree;
import com.sun.source.tree.WhileLoopTree;
import com.sun.source.util.JavacTask;
import com.sun.source.util.SourcePositions;
import com.sun.source.util.TreePath;
import com.sun.source.util.TreePathScanner;
import com.sun.source.util.Trees;
import java.io.IOException;
import java.nio.file.Path;
import java.util.ArrayList;
import java.util.LinkedHashSet;
import java.util.List;
import java.util.Map;
import java.util.Set;
import java.util.TreeMap;
import java.util.TreeSet;
import javax.lang.model.element.Element;
import javax.lang.model.element.ElementKind;
import javax.lang.model.element.Modifier;
import javax.lang.model.element.TypeElement;
import javax.lang.model.element.VariableElement;
import javax.lang.model.type.TypeKind;
import javax.lang.model.type.TypeMirror;
import javax.tools.JavaCompiler;
import javax.tools.StandardJavaFileManager;
import javax.tools.ToolProvider;

/**
 * The source against ../shared/LANGUAGE.md, as the compiler understands it: what of each rule can be told without
 * running. Rules 1 and 13 are told by FaceTest and by what rule 4 leaves of the library.
 */
final class LanguageTest extends TreePathScanner<Void, Void> {
    private static final String FACE = "StablepairBureau";
    private static final int MOST_PARAMETERS = 7;
    private static final int MOST_LINES = 60;
    private static final int MOST_CLASSES = 12;
    private static final int MOST_FIELDS = 20;
    private static final int MOST_CALLS = 8;
    private static final Set<String> THROWN = Set.of("IllegalStateException", "IllegalArgumentException",
            "IndexOutOfBoundsException", "ArithmeticException", "UnsupportedOperationException",
            "NoSuchElementException", "RuntimeException");
    private static final Set<String> NUMBERS = Set.of("int", "long", "short", "byte", "char", "boolean", "double",
            "float");
    private static final Set<String> CONSTANTS = Set.of("int", "long", "boolean", "char", "String", "int[]", "long[]",
            "char[]", "byte[]");
    private static final Map<String, Set<String>> LIBRARY = Map.of(
            "java.lang.String", Set.of("length", "charAt", "isEmpty", "equals", "indexOf", "substring", "toCharArray"),
            "java.lang.StringBuilder", Set.of("append", "charAt", "setCharAt", "setLength", "deleteCharAt", "reverse",
                    "length", "toString"),
            "java.util.ArrayList", Set.of("add", "get", "set", "remove", "size", "isEmpty", "clear"),
            "java.util.List", Set.of("add", "get", "set", "remove", "size", "isEmpty", "clear", "of"),
            "java.lang.System", Set.of("arraycopy"),
            "java.util.Arrays", Set.of("copyOf", "copyOfRange", "fill"),
            "java.lang.Math", Set.of("max", "min", "abs", "floorDiv", "floorMod"),
            "java.lang.Integer", Set.of("compare", "max", "min", "bitCount"),
            "java.lang.Long", Set.of("compare", "max", "min", "bitCount"));

    private final Trees trees;
    private final CompilationUnitTree unit;
    private final Map<String, Set<String>> calls = new TreeMap<>();
    private final Map<String, Set<Modifier>> methods = new TreeMap<>();
    private final Set<String> inTry = new TreeSet<>();
    private final Set<String> throwing = new TreeSet<>();
    private int classes = 0;
    private int looked = 0;
    private int loops = 0;
    private String method = "";
    private boolean constructing = false;

    private LanguageTest(Trees trees, CompilationUnitTree unit) {
        this.trees = trees;
        this.unit = unit;
    }

    public static void main(String[] args) throws IOException {
        Path source = Path.of(args[0]).resolve("src/main/java/" + FACE + ".java");
        JavaCompiler compiler = ToolProvider.getSystemJavaCompiler();
        try (StandardJavaFileManager files = compiler.getStandardFileManager(null, null, null)) {
            JavacTask task = (JavacTask) compiler.getTask(null, files, null, List.of("-proc:none"), null,
                    files.getJavaFileObjects(source));
            CompilationUnitTree unit = task.parse().iterator().next();
            task.analyze();
            LanguageTest test = new LanguageTest(Trees.instance(task), unit);
            test.scan(unit, null);
            test.whole();
        }
        Check.end();
    }

    private void rule(int number, String what, Tree at, boolean holds) {
        looked++;
        if (!holds) {
            long line = unit.getLineMap().getLineNumber(trees.getSourcePositions().getStartPosition(unit, at));
            Check.due("rule " + number + ", line " + line + ": " + what, "kept", at.toString());
        }
    }

    private Element element(Tree tree) {
        return trees.getElement(new TreePath(getCurrentPath(), tree));
    }

    private String typeOf(Tree tree) {
        TypeMirror type = trees.getTypeMirror(new TreePath(getCurrentPath(), tree));
        return type == null ? "" : shortName(type);
    }

    private static String shortName(TypeMirror type) {
        return type.toString().replace("java.lang.", "").replace("java.util.", "");
    }

    /** The rules on the whole file: 4 (imports), 8 (what calls itself), 11 (how many, how deep). */
    private void whole() {
        Check.due("rule 1: no package line", null, unit.getPackageName());
        unit.getImports().forEach(line -> rule(4, "an import", line,
                Set.of("java.util.Arrays", "java.util.NoSuchElementException", "java.util.ArrayList", "java.util.List")
                        .contains(line.getQualifiedIdentifier().toString())));
        Check.due("rule 11: classes", true, classes <= MOST_CLASSES);
        Set<String> both = new TreeSet<>(inTry);
        both.retainAll(throwing);
        Check.due("rule 6: a catch in the method that throws", Set.of(), both);
        int deepest = 0;
        for (String name : methods.keySet()) {
            if (calls.get(name).contains(name)) {
                Check.due("rule 8: " + name + " is private and static", true,
                        methods.get(name).containsAll(Set.of(Modifier.PRIVATE, Modifier.STATIC)));
            }
            deepest = Math.max(deepest, depth(name, new LinkedHashSet<>()));
        }
        Check.due("rule 11: calls go at most eight deep, but go " + deepest, true,
                deepest > 3 && deepest <= MOST_CALLS);
        Check.due("something was looked at", true, looked > 1000 && methods.size() > 150);
    }

    private int depth(String name, Set<String> open) {
        int deepest = 0;
        open.add(name);
        for (String next : calls.getOrDefault(name, Set.of())) {
            if (!next.equals(name)) {
                Check.due("rule 8: a ring of calls " + open + " to " + next, false, open.contains(next));
                deepest = open.contains(next) ? deepest : Math.max(deepest, depth(next, open));
            }
        }
        open.remove(name);
        return deepest + 1;
    }

    // ---- classes, methods, variables

    @Override
    public Void visitClass(ClassTree tree, Void none) {
        classes++;
        Element made = trees.getElement(getCurrentPath());
        boolean face = made.getSimpleName().contentEquals(FACE);
        Set<Modifier> modifiers = made.getModifiers();
        boolean closed = !modifiers.contains(Modifier.PUBLIC) && !modifiers.contains(Modifier.PROTECTED);
        rule(1, "the face is public and final", tree,
                !face || modifiers.containsAll(Set.of(Modifier.PUBLIC, Modifier.FINAL)));
        rule(2, "a class inside is static, and closed", tree, face || modifiers.contains(Modifier.STATIC) && closed);
        rule(2, "no local class", tree, made.getEnclosingElement().getKind() != ElementKind.METHOD);
        int fields = 0;
        for (Element member : made.getEnclosedElements()) {
            boolean field = member.getKind() == ElementKind.FIELD && !member.getModifiers().contains(Modifier.STATIC);
            fields += field ? 1 : 0;
        }
        rule(11, "fields", tree, fields <= MOST_FIELDS);
        return super.visitClass(tree, none);
    }

    private static String named(Element element) {
        return element.getEnclosingElement().getSimpleName() + "." + element;
    }

    @Override
    public Void visitMethod(MethodTree tree, Void none) {
        Element made = trees.getElement(getCurrentPath());
        method = named(made);
        constructing = made.getKind() == ElementKind.CONSTRUCTOR;
        methods.put(method, made.getModifiers());
        calls.put(method, new TreeSet<>());
        rule(11, "parameters", tree, tree.getParameters().size() <= MOST_PARAMETERS);
        rule(11, "lines", tree, lines(tree) <= MOST_LINES);
        rule(6, "no method of all objects", tree,
                !Set.of("equals", "hashCode", "toString").contains(tree.getName().toString()));
        for (Modifier wrong : List.of(Modifier.SYNCHRONIZED, Modifier.NATIVE, Modifier.STRICTFP)) {
            rule(6, "no modifier " + wrong, tree, !made.getModifiers().contains(wrong));
        }
        super.visitMethod(tree, none);
        constructing = false;
        method = "";
        return null;
    }

    private long lines(Tree tree) {
        LineMap map = unit.getLineMap();
        SourcePositions positions = trees.getSourcePositions();
        long start = positions.getStartPosition(unit, tree);
        long end = positions.getEndPosition(unit, tree);
        return end < 0 ? 0 : map.getLineNumber(end) - map.getLineNumber(start) + 1;
    }

    @Override
    public Void visitVariable(VariableTree tree, Void none) {
        Element made = trees.getElement(getCurrentPath());
        String type = shortName(made.asType());
        String base = type.replace("[]", "");
        int dimensions = (type.length() - base.length()) / 2;
        boolean own = base.startsWith(FACE + ".");
        boolean list = base.matches("(Array)?List<(Integer|" + FACE + "\\.\\w+)>");
        boolean single = own || list || Set.of("String", "StringBuilder", "Integer").contains(base);
        boolean caught = made.getKind() == ElementKind.EXCEPTION_PARAMETER;
        rule(3, "a type", tree, caught || NUMBERS.contains(base) && dimensions <= 2
                || single && dimensions == 0 || own && dimensions == 1);
        if (made.getKind() == ElementKind.FIELD && made.getModifiers().contains(Modifier.STATIC)) {
            rule(5, "a static field is final", tree, made.getModifiers().contains(Modifier.FINAL));
            rule(5, "a static field is a constant", tree, CONSTANTS.contains(type) || own && dimensions == 1);
        }
        if (made.getKind() == ElementKind.FIELD) {
            rule(1, "a field is private", tree, made.getModifiers().contains(Modifier.PRIVATE));
        }
        return super.visitVariable(tree, none);
    }

    @Override
    public Void visitBlock(BlockTree tree, Void none) {
        rule(5, "no static initialiser block", tree, !tree.isStatic());
        return super.visitBlock(tree, none);
    }

    // ---- calls, new objects, exceptions

    @Override
    public Void visitMethodInvocation(MethodInvocationTree tree, Void none) {
        Element called = element(tree.getMethodSelect());
        TypeElement owner = (TypeElement) called.getEnclosingElement();
        String from = owner.getQualifiedName().toString();
        String name = called.getSimpleName().toString();
        if (name.equals("<init>")) {
            return super.visitMethodInvocation(tree, none);
        }
        rule(12, "a constructor calls no method", tree, !constructing);
        if (from.startsWith(FACE)) {
            if (!method.isEmpty()) {
                calls.get(method).add(named(called));
            }
        } else {
            boolean array = from.equals("java.lang.Object") && name.equals("clone");
            rule(4, "a call of the library", tree, array || LIBRARY.getOrDefault(from, Set.of()).contains(name));
        }
        return super.visitMethodInvocation(tree, none);
    }

    @Override
    public Void visitNewClass(NewClassTree tree, Void none) {
        String type = typeOf(tree.getIdentifier());
        boolean thrown = getCurrentPath().getParentPath().getLeaf() instanceof ThrowTree;
        rule(6, "an exception is thrown at once", tree, THROWN.contains(type) == thrown);
        rule(4, "a new object", tree, thrown || type.startsWith(FACE + ".") || type.startsWith("ArrayList<")
                || Set.of("String", "StringBuilder").contains(type));
        rule(12, "no new object in a loop", tree, loops == 0);
        return super.visitNewClass(tree, none);
    }

    @Override
    public Void visitThrow(ThrowTree tree, Void none) {
        throwing.add(method);
        ExpressionTree made = tree.getExpression();
        boolean written = made instanceof NewClassTree;
        if (made instanceof NewClassTree exception) {
            List<? extends ExpressionTree> words = exception.getArguments();
            written = words.isEmpty() || words.size() == 1 && words.get(0).getKind() == Tree.Kind.STRING_LITERAL;
        }
        rule(6, "a new one, with a written text", tree, written);
        rule(6, "no throw in a constructor", tree, !constructing);
        return super.visitThrow(tree, none);
    }

    @Override
    public Void visitTry(TryTree tree, Void none) {
        inTry.add(method);
        rule(6, "no finally, no resources", tree, tree.getFinallyBlock() == null && tree.getResources().isEmpty());
        return super.visitTry(tree, none);
    }

    @Override
    public Void visitCatch(CatchTree tree, Void none) {
        String type = typeOf(tree.getParameter().getType());
        rule(6, "what the machine throws is not caught", tree, THROWN.contains(type)
                && !Set.of("RuntimeException", "IndexOutOfBoundsException", "ArithmeticException").contains(type));
        return super.visitCatch(tree, none);
    }

    // ---- expressions

    @Override
    public Void visitMemberSelect(MemberSelectTree tree, Void none) {
        Element selected = trees.getElement(getCurrentPath());
        if (selected instanceof VariableElement field && !field.getSimpleName().contentEquals("length")) {
            rule(4, "no field of the library", tree, field.getEnclosingElement().toString().startsWith(FACE));
        }
        return super.visitMemberSelect(tree, none);
    }

    @Override
    public Void visitBinary(BinaryTree tree, Void none) {
        String left = typeOf(tree.getLeftOperand());
        String right = typeOf(tree.getRightOperand());
        Set<String> texts = Set.of("String", "Integer");
        switch (tree.getKind()) {
            case PLUS -> rule(10, "texts are not joined by +", tree, !left.equals("String") && !right.equals("String"));
            case EQUAL_TO, NOT_EQUAL_TO -> rule(6, "texts and Integers are not compared by ==", tree,
                    !(texts.contains(left) && texts.contains(right)));
            case DIVIDE, REMAINDER -> rule(7, "a whole divisor is a constant", tree,
                    Set.of("double", "float").contains(right) || isConstant(tree.getRightOperand()));
            default -> looked++;
        }
        return super.visitBinary(tree, none);
    }

    /** Whether only literals and constants come together there; none of these is 0 in the file. */
    private boolean isConstant(ExpressionTree tree) {
        if (tree instanceof ParenthesizedTree inner) {
            return isConstant(inner.getExpression());
        }
        if (tree instanceof BinaryTree both) {
            return isConstant(both.getLeftOperand()) && isConstant(both.getRightOperand());
        }
        if (tree instanceof IdentifierTree) {
            Element named = trees.getElement(new TreePath(getCurrentPath(), tree));
            return named instanceof VariableElement field && field.getConstantValue() != null;
        }
        return tree instanceof LiteralTree;
    }

    @Override
    public Void visitLambdaExpression(LambdaExpressionTree tree, Void none) {
        rule(2, "no lambda", tree, false);
        return super.visitLambdaExpression(tree, none);
    }

    @Override
    public Void visitMemberReference(MemberReferenceTree tree, Void none) {
        rule(2, "no method reference", tree, false);
        return super.visitMemberReference(tree, none);
    }

    @Override
    public Void visitSynchronized(SynchronizedTree tree, Void none) {
        rule(6, "no synchronized", tree, false);
        return super.visitSynchronized(tree, none);
    }

    @Override
    public Void visitAssert(AssertTree tree, Void none) {
        rule(6, "no assert", tree, false);
        return super.visitAssert(tree, none);
    }

    // ---- loops

    private boolean compares(ExpressionTree condition) {
        return condition != null && condition.toString().matches("(?s).*[<>].*")
                && trees.getTypeMirror(new TreePath(getCurrentPath(), condition)).getKind() == TypeKind.BOOLEAN;
    }

    @Override
    public Void visitForLoop(ForLoopTree tree, Void none) {
        rule(9, "a loop counts against a bound", tree, compares(tree.getCondition()) && tree.getUpdate().size() == 1);
        loops++;
        super.visitForLoop(tree, none);
        loops--;
        return null;
    }

    @Override
    public Void visitWhileLoop(WhileLoopTree tree, Void none) {
        rule(9, "a loop counts against a bound", tree, compares(tree.getCondition()));
        loops++;
        super.visitWhileLoop(tree, none);
        loops--;
        return null;
    }

    @Override
    public Void visitDoWhileLoop(DoWhileLoopTree tree, Void none) {
        rule(9, "a loop counts against a bound", tree, compares(tree.getCondition()));
        loops++;
        super.visitDoWhileLoop(tree, none);
        loops--;
        return null;
    }
}
