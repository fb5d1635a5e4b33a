import com.sun.source.tree.BinaryTree;
import com.sun.source.tree.BlockTree;
import com.sun.source.tree.ClassTree;
import com.sun.source.tree.CompilationUnitTree;
import com.sun.source.tree.EnhancedForLoopTree;
import com.sun.source.tree.ForLoopTree;
import com.sun.source.tree.ImportTree;
import com.sun.source.tree.LiteralTree;
import com.sun.source.tree.MethodInvocationTree;
import com.sun.source.tree.MethodTree;
import com.sun.source.tree.NewClassTree;
import com.sun.source.tree.ThrowTree;
import com.sun.source.tree.Tree;
import com.sun.source.tree.VariableTree;
import com.sun.source.tree.WhileLoopTree;
import com.sun.source.util.JavacTask;
import com.sun.source.util.TreePath;
import com.sun.source.util.TreePathScanner;
import com.sun.source.util.Trees;
import java.io.IOException;
import java.nio.file.Files;
import java.nio.file.Path;
import java.util.LinkedHashMap;
import java.util.LinkedHashSet;
import java.util.List;
import java.util.Map;
import java.util.Set;
import javax.lang.model.element.Element;
import javax.lang.model.element.ElementKind;
import javax.lang.model.element.Modifier;
import javax.lang.model.element.TypeElement;
import javax.lang.model.type.ArrayType;
import javax.lang.model.type.TypeKind;
import javax.lang.model.type.TypeMirror;
import javax.tools.JavaCompiler;
import javax.tools.StandardJavaFileManager;
import javax.tools.ToolProvider;

/** The rules of LANGUAGE.md that the compiler's own tree of the program shows; stricter where the program needs less. */
public final class LanguageTest extends TreePathScanner<Void, Void> {
    private static final Path PROGRAM = Path.of("src/main/java/LinkTraining.java");
    private static final Set<String> TYPES = Set.of("java.lang.String", "java.lang.StringBuilder", "java.lang.Integer",
            "java.util.ArrayList", "java.util.List");
    private static final Set<String> EXCEPTIONS = Set.of("IllegalStateException", "IllegalArgumentException",
            "IndexOutOfBoundsException", "ArithmeticException", "UnsupportedOperationException",
            "NoSuchElementException", "RuntimeException");
    private static final Map<String, Set<String>> LIBRARY = Map.of(
            "java.lang.Object", Set.of("Object()"),
            "java.lang.String", Set.of("length()", "charAt(int)", "isEmpty()", "equals(java.lang.Object)", "indexOf(int)",
                    "substring(int)", "substring(int,int)", "toCharArray()", "String(char[])"),
            "java.lang.StringBuilder", Set.of("StringBuilder()", "append(char)", "append(java.lang.String)", "append(int)",
                    "charAt(int)", "setCharAt(int,char)", "setLength(int)", "deleteCharAt(int)", "reverse()", "length()",
                    "toString()"),
            "java.util.ArrayList", Set.of("ArrayList()", "add(E)", "add(int,E)", "get(int)", "set(int,E)", "remove(int)",
                    "size()", "isEmpty()", "clear()"),
            "java.lang.System", Set.of("arraycopy(java.lang.Object,int,java.lang.Object,int,int)"));
    // What the program does without, and the rule that forbids it or binds it.
    private static final Map<Tree.Kind, Integer> ABSENT = Map.of(Tree.Kind.LAMBDA_EXPRESSION, 2,
            Tree.Kind.MEMBER_REFERENCE, 2, Tree.Kind.TRY, 6, Tree.Kind.SYNCHRONIZED, 6, Tree.Kind.ASSERT, 6);
    private static final int MOST_PARAMETERS = 7;
    private static final int MOST_LINES = 60;
    private static final int MOST_CALLS_DEEP = 8;
    private static final int MOST_CLASSES = 12;
    private static final int MOST_FIELDS = 20;

    private final CompilationUnitTree unit;
    private final Trees trees;
    private final Map<Element, Set<Element>> calls = new LinkedHashMap<>();
    private Element caller;
    private int classes = 0;
    private int looked = 0;
    private int wrong = 0;

    private LanguageTest(CompilationUnitTree unit, Trees trees) {
        this.unit = unit;
        this.trees = trees;
    }

    private void expect(int rule, Tree tree, boolean holds, String what) {
        looked++;
        if (!holds) {
            wrong++;
            System.out.println("rule " + rule + ", line " + lineOf(start(tree)) + ": " + what);
        }
    }

    private long start(Tree tree) {
        return trees.getSourcePositions().getStartPosition(unit, tree);
    }

    private long lineOf(long position) {
        return unit.getLineMap().getLineNumber(position);
    }

    private Element here() {
        return trees.getElement(getCurrentPath());
    }

    private boolean isOwn(Element element) {
        for (Element e = element; e != null; e = e.getEnclosingElement()) {
            if (e.getSimpleName().contentEquals("LinkTraining")) {
                return true;
            }
        }
        return false;
    }

    private boolean isKnown(TypeMirror type) {
        if (type.getKind() == TypeKind.ARRAY) {
            TypeMirror part = ((ArrayType) type).getComponentType();
            boolean isRow = part.getKind() == TypeKind.ARRAY;
            return isRow ? ((ArrayType) part).getComponentType().getKind().isPrimitive() : isKnown(part);
        }
        if (type.getKind() != TypeKind.DECLARED) {
            return type.getKind().isPrimitive() || type.getKind() == TypeKind.TYPEVAR;
        }
        Element element = ((javax.lang.model.type.DeclaredType) type).asElement();
        return isOwn(element) || TYPES.contains(((TypeElement) element).getQualifiedName().toString());
    }

    // Rules 2, 5 and 11: classes, fields and methods

    @Override
    public Void visitClass(ClassTree tree, Void nothing) {
        classes++;
        Element element = here();
        boolean isInside = element.getEnclosingElement().getKind().isClass();
        expect(2, tree, isInside ? element.getModifiers().contains(Modifier.STATIC)
                : element.getModifiers().contains(Modifier.FINAL), "not static: " + element);
        long fields = element.getEnclosedElements().stream()
                .filter(e -> e.getKind() == ElementKind.FIELD && !e.getModifiers().contains(Modifier.STATIC)).count();
        expect(11, tree, fields <= MOST_FIELDS, fields + " fields in " + element);
        return super.visitClass(tree, nothing);
    }

    @Override
    public Void visitBlock(BlockTree tree, Void nothing) {
        expect(5, tree, !tree.isStatic(), "a static block");
        return super.visitBlock(tree, nothing);
    }

    @Override
    public Void visitVariable(VariableTree tree, Void nothing) {
        Element element = here();
        expect(3, tree, isKnown(element.asType()), "the type " + element.asType() + " of " + element);
        if (element.getModifiers().contains(Modifier.STATIC)) {
            boolean isConstant = ((javax.lang.model.element.VariableElement) element).getConstantValue() != null;
            expect(5, tree, isConstant, "static, but not a constant: " + element);
        }
        return super.visitVariable(tree, nothing);
    }

    @Override
    public Void visitMethod(MethodTree tree, Void nothing) {
        caller = here();
        calls.put(caller, new LinkedHashSet<>());
        expect(11, tree, tree.getParameters().size() <= MOST_PARAMETERS, "too many parameters: " + caller);
        long end = trees.getSourcePositions().getEndPosition(unit, tree);
        long lines = lineOf(end) - lineOf(start(tree)) + 1;
        expect(11, tree, lines <= MOST_LINES, lines + " lines: " + caller);
        boolean isTheirs = Set.of("equals", "hashCode", "toString").contains(tree.getName().toString());
        expect(6, tree, !isTheirs, "a method " + tree.getName());
        super.visitMethod(tree, nothing);
        caller = null;
        return null;
    }

    // Rules 4, 10 and 13: what is called, and how texts are joined

    @Override
    public Void visitImport(ImportTree tree, Void nothing) {
        String name = tree.getQualifiedIdentifier().toString();
        expect(4, tree, Set.of("java.util.ArrayList", "java.util.NoSuchElementException").contains(name), name);
        return super.visitImport(tree, nothing);
    }

    @Override
    public Void visitMethodInvocation(MethodInvocationTree tree, Void nothing) {
        called(tree, here());
        return super.visitMethodInvocation(tree, nothing);
    }

    @Override
    public Void visitNewClass(NewClassTree tree, Void nothing) {
        expect(2, tree, tree.getClassBody() == null, "an anonymous class");
        called(tree, here());
        return super.visitNewClass(tree, nothing);
    }

    private void called(Tree tree, Element method) {
        if (caller != null) {
            calls.get(caller).add(method);
        }
        if (!isOwn(method)) {
            expect(4, tree, isLent(method), method.getEnclosingElement() + "." + method);
        }
    }

    private static boolean isLent(Element method) {
        String declared = ((TypeElement) method.getEnclosingElement()).getQualifiedName().toString();
        // Where the library keeps what StringBuilder inherits.
        String owner = declared.equals("java.lang.AbstractStringBuilder") ? "java.lang.StringBuilder" : declared;
        if (owner.equals("java.lang.Math") || owner.equals("java.lang.Integer") || owner.equals("java.lang.Long")) {
            String sign = method.toString();
            return method.getModifiers().contains(Modifier.STATIC)
                    && sign.matches("\\w+\\((int|long)(,(int|long))*\\)") && !sign.contains("Exact(");
        }
        return LIBRARY.getOrDefault(owner, Set.of()).contains(method.toString())
                || EXCEPTIONS.contains(method.getEnclosingElement().getSimpleName().toString());
    }

    @Override
    public Void visitBinary(BinaryTree tree, Void nothing) {
        TypeMirror type = trees.getTypeMirror(getCurrentPath());
        expect(10, tree, !type.toString().endsWith("String"), "a text joined by +: " + tree);
        boolean isEquality = tree.getKind() == Tree.Kind.EQUAL_TO || tree.getKind() == Tree.Kind.NOT_EQUAL_TO;
        TypeMirror left = trees.getTypeMirror(new TreePath(getCurrentPath(), tree.getLeftOperand()));
        expect(6, tree, !isEquality || !TYPES.contains(left.toString()), "texts or lists compared: " + tree);
        return super.visitBinary(tree, nothing);
    }

    @Override
    public Void visitLiteral(LiteralTree tree, Void nothing) {
        boolean isPlain = !(tree.getValue() instanceof String text) || text.chars().allMatch(c -> c >= 1 && c <= 127);
        expect(4, tree, isPlain, "the constant " + tree);
        return super.visitLiteral(tree, nothing);
    }

    // Rules 2, 6 and 9: what is not there at all

    @Override
    public Void scan(Tree tree, Void nothing) {
        if (tree != null && ABSENT.containsKey(tree.getKind())) {
            expect(ABSENT.get(tree.getKind()), tree, false, tree.getKind() + " is not needed");
        }
        return super.scan(tree, nothing);
    }

    @Override
    public Void visitThrow(ThrowTree tree, Void nothing) {
        expect(6, tree, caller != null && caller.getKind() == ElementKind.METHOD, "a throw in a constructor");
        boolean isMade = tree.getExpression() instanceof NewClassTree made
                && EXCEPTIONS.contains(made.getIdentifier().toString())
                && made.getArguments().stream().allMatch(a -> a.getKind() == Tree.Kind.STRING_LITERAL);
        expect(6, tree, isMade, tree.toString());
        return super.visitThrow(tree, nothing);
    }

    @Override
    public Void visitWhileLoop(WhileLoopTree tree, Void nothing) {
        boolean isBound = tree.getCondition().toString().matches(".*[<>].*");
        expect(9, tree, isBound, "no bound: " + tree.getCondition());
        return super.visitWhileLoop(tree, nothing);
    }

    @Override
    public Void visitForLoop(ForLoopTree tree, Void nothing) {
        boolean isBound = tree.getCondition() != null && tree.getCondition().toString().matches(".*[<>].*");
        expect(9, tree, isBound && tree.getUpdate().size() == 1, "no bound: " + tree.getCondition());
        return super.visitForLoop(tree, nothing);
    }

    @Override
    public Void visitEnhancedForLoop(EnhancedForLoopTree tree, Void nothing) {
        TypeMirror type = trees.getTypeMirror(new TreePath(getCurrentPath(), tree.getExpression()));
        expect(12, tree, type.getKind() == TypeKind.ARRAY, "a list's iterator");
        return super.visitEnhancedForLoop(tree, nothing);
    }

    // Rules 8 and 11: how deep calls go

    private int depthOf(Element method, int above) {
        // Deep enough to be refused, and an end where methods call one another.
        if (above > MOST_CALLS_DEEP) {
            return above;
        }
        int depth = above + 1;
        for (Element next : calls.getOrDefault(method, Set.of())) {
            depth = Math.max(depth, depthOf(next, above + 1));
        }
        return depth;
    }

    private void depths() {
        for (Element method : calls.keySet()) {
            int depth = depthOf(method, 0);
            expect(11, unit, depth <= MOST_CALLS_DEEP, depth + " calls deep: " + method);
        }
        expect(11, unit, classes <= MOST_CLASSES, classes + " classes");
    }

    public static void main(String[] args) throws IOException {
        JavaCompiler compiler = ToolProvider.getSystemJavaCompiler();
        try (StandardJavaFileManager files = compiler.getStandardFileManager(null, null, null)) {
            JavacTask task = (JavacTask) compiler.getTask(null, files, null, null, null,
                    files.getJavaFileObjects(PROGRAM));
            CompilationUnitTree unit = task.parse().iterator().next();
            task.analyze();
            LanguageTest test = new LanguageTest(unit, Trees.instance(task));
            test.scan(unit, null);
            test.depths();
            boolean isPlain = Files.readString(PROGRAM).chars().allMatch(c -> c == '\n' || c >= 32 && c < 127);
            test.expect(4, unit, isPlain, "a sign that is not plain");
            test.expect(1, unit, unit.getPackageName() == null && unit.getTypeDecls().size() == 1, "one class, no package");
            System.out.println("the program has " + test.calls.size() + " methods, " + test.looked + " places looked at, "
                    + test.wrong + " wrong");
            System.exit(test.wrong > 0 ? 1 : 0);
        }
    }
}
