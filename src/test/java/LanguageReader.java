import com.sun.source.tree.AssertTree;
import com.sun.source.tree.BinaryTree;
import com.sun.source.tree.BlockTree;
import com.sun.source.tree.CatchTree;
import com.sun.source.tree.ClassTree;
import com.sun.source.tree.CompilationUnitTree;
import com.sun.source.tree.CompoundAssignmentTree;
import com.sun.source.tree.DoWhileLoopTree;
import com.sun.source.tree.ExpressionTree;
import com.sun.source.tree.ForLoopTree;
import com.sun.source.tree.LambdaExpressionTree;
import com.sun.source.tree.LiteralTree;
import com.sun.source.tree.MemberReferenceTree;
import com.sun.source.tree.MethodInvocationTree;
import com.sun.source.tree.MethodTree;
import com.sun.source.tree.NewClassTree;
import com.sun.source.tree.SynchronizedTree;
import com.sun.source.tree.ThrowTree;
import com.sun.source.tree.Tree;
import com.sun.source.tree.TryTree;
import com.sun.source.tree.TypeCastTree;
import com.sun.source.tree.VariableTree;
import com.sun.source.tree.WhileLoopTree;
import com.sun.source.util.JavacTask;
import com.sun.source.util.TreePath;
import com.sun.source.util.TreePathScanner;
import com.sun.source.util.Trees;
import java.io.IOException;
import java.util.Arrays;
import java.util.HashSet;
import java.util.List;
import java.util.TreeMap;
import java.util.TreeSet;
import javax.lang.model.element.Element;
import javax.lang.model.element.ExecutableElement;
import javax.lang.model.element.Modifier;
import javax.lang.model.type.ArrayType;
import javax.lang.model.type.TypeKind;
import javax.lang.model.type.TypeMirror;
import javax.tools.JavaCompiler;
import javax.tools.StandardJavaFileManager;
import javax.tools.ToolProvider;

/** Reads a source by javac's tree, and keeps what in it is outside LANGUAGE.md, and which method calls which. */
final class LanguageReader extends TreePathScanner<Void, Void> {
    private static final int MOST_LINES_OF_A_METHOD = 60;
    private static final int MOST_PARAMETERS = 7;
    private static final int MOST_FIELDS = 20;

    private static final List<String> EXCEPTIONS = Arrays.asList(
        "IllegalStateException", "IllegalArgumentException", "IndexOutOfBoundsException", "ArithmeticException",
        "UnsupportedOperationException", "NoSuchElementException", "RuntimeException");
    private static final List<String> LIBRARY_TYPES = Arrays.asList(
        "String", "StringBuilder", "Integer", "ArrayList", "List", "Iterator", "Iterable", "Comparable");
    private static final List<String> STATIC_ARRAYS = Arrays.asList("int[]", "long[]", "char[]", "byte[]");
    private static final List<String> OF_ARRAYS = Arrays.asList("copyOf", "copyOfRange", "fill");
    private static final List<String> OF_OBJECTS = Arrays.asList("equals", "hashCode", "toString");

    /** Methods of the library by their class, their name and their parameters; those of numbers are told apart. */
    private static final HashSet<String> LIBRARY_CALLS = new HashSet<>(Arrays.asList(
        "String.length()", "String.charAt(int)", "String.isEmpty()", "String.equals(java.lang.Object)",
        "String.indexOf(int)", "String.substring(int)", "String.substring(int,int)", "String.toCharArray()",
        "StringBuilder.append(char)", "StringBuilder.append(java.lang.String)", "StringBuilder.append(int)",
        "StringBuilder.charAt(int)", "StringBuilder.setCharAt(int,char)", "StringBuilder.setLength(int)",
        "StringBuilder.deleteCharAt(int)", "StringBuilder.reverse()", "StringBuilder.length()",
        "StringBuilder.toString()", "System.arraycopy(java.lang.Object,int,java.lang.Object,int,int)",
        "ArrayList.add(E)", "ArrayList.add(int,E)", "ArrayList.get(int)", "ArrayList.set(int,E)",
        "ArrayList.remove(int)", "ArrayList.size()", "ArrayList.isEmpty()", "ArrayList.clear()",
        "ArrayList.ArrayList()", "StringBuilder.StringBuilder()", "String.String(char[])", "Object.Object()"));

    private final TreeMap<String, TreeSet<String>> found = new TreeMap<>();
    private final TreeMap<String, TreeSet<String>> callsOf = new TreeMap<>();
    private final Trees trees;
    private final CompilationUnitTree unit;
    private int classes = 0;

    private LanguageReader(Trees trees, CompilationUnitTree unit) {
        this.trees = trees;
        this.unit = unit;
    }

    static LanguageReader of(String source) {
        JavaCompiler compiler = ToolProvider.getSystemJavaCompiler();
        try (StandardJavaFileManager files = compiler.getStandardFileManager(null, null, null)) {
            JavacTask task = (JavacTask) compiler.getTask(
                    null, files, null, null, null, files.getJavaFileObjects(source));
            CompilationUnitTree unit = task.parse().iterator().next();
            task.analyze();
            LanguageReader reader = new LanguageReader(Trees.instance(task), unit);
            reader.scan(unit, null);
            return reader;
        } catch (IOException e) {
            throw new AssertionError(e);
        }
    }

    int classes() {
        return classes;
    }

    TreeSet<String> faults(String kind) {
        return found.getOrDefault(kind, new TreeSet<>());
    }

    /** How many methods stand open at once at most; it fails if one calls itself, perhaps through others. */
    int deepestCall() {
        int deepest = 0;
        for (String method : callsOf.keySet()) {
            deepest = Math.max(deepest, depthOf(method, new TreeSet<>()));
        }
        return deepest;
    }

    private int depthOf(String method, TreeSet<String> open) {
        if (!open.add(method)) {
            throw new AssertionError(method + " calls itself: " + open);
        }
        int deepest = 0;
        for (String called : callsOf.getOrDefault(method, new TreeSet<>())) {
            deepest = Math.max(deepest, depthOf(called, open));
        }
        open.remove(method);
        return deepest + 1;
    }

    private void faultIf(boolean broken, String kind, Tree where) {
        if (broken) {
            long line = lineOf(trees.getSourcePositions().getStartPosition(unit, where));
            found.computeIfAbsent(kind, k -> new TreeSet<>()).add("line " + line + ": " + where);
        }
    }

    private long lineOf(long position) {
        return position < 0 ? 0 : unit.getLineMap().getLineNumber(position);
    }

    // ---- classes, fields, methods

    @Override
    public Void visitClass(ClassTree tree, Void nothing) {
        classes++;
        faultIf(getCurrentPath().getParentPath().getLeaf() instanceof BlockTree, "function", tree);
        int fields = 0;
        for (Tree member : tree.getMembers()) {
            faultIf(member.getKind() == Tree.Kind.BLOCK, "static", member);
            fields += member instanceof VariableTree && !has(Modifier.STATIC, (VariableTree) member) ? 1 : 0;
        }
        faultIf(fields > MOST_FIELDS, "fields", tree);
        return super.visitClass(tree, nothing);
    }

    private static boolean has(Modifier modifier, VariableTree tree) {
        return tree.getModifiers().getFlags().contains(modifier);
    }

    @Override
    public Void visitVariable(VariableTree tree, Void nothing) {
        TypeMirror type = trees.getElement(getCurrentPath()).asType();
        boolean isCaught = getCurrentPath().getParentPath().getLeaf() instanceof CatchTree;
        faultIf(!isCaught && !isListed(type), "type", tree);
        boolean isConstant = has(Modifier.FINAL, tree) && (type.getKind().isPrimitive()
                || type.toString().equals("java.lang.String") || STATIC_ARRAYS.contains(type.toString()));
        faultIf(has(Modifier.STATIC, tree) && !isConstant, "static", tree);
        return super.visitVariable(tree, nothing);
    }

    private static boolean isListed(TypeMirror type) {
        if (type.getKind() != TypeKind.ARRAY) {
            String name = type.toString().replaceAll("<.*", "").replaceAll(".*\\.", "");
            return type.getKind().isPrimitive() || isOwn(type) || LIBRARY_TYPES.contains(name);
        }
        TypeMirror part = ((ArrayType) type).getComponentType();
        if (part.getKind() != TypeKind.ARRAY) {
            return part.getKind().isPrimitive() || isOwn(part);
        }
        return ((ArrayType) part).getComponentType().getKind().isPrimitive();
    }

    private static boolean isOwn(TypeMirror type) {
        return type.toString().equals("VowCourt") || type.toString().startsWith("VowCourt.");
    }

    @Override
    public Void visitMethod(MethodTree tree, Void nothing) {
        faultIf(OF_OBJECTS.contains(tree.getName().toString()), "object", tree);
        faultIf(tree.getParameters().size() > MOST_PARAMETERS, "parameters", tree);
        long first = lineOf(trees.getSourcePositions().getStartPosition(unit, tree));
        long last = lineOf(trees.getSourcePositions().getEndPosition(unit, tree));
        faultIf(last - first >= MOST_LINES_OF_A_METHOD, "lines", tree);
        return super.visitMethod(tree, nothing);
    }

    // ---- calls

    @Override
    public Void visitMethodInvocation(MethodInvocationTree tree, Void nothing) {
        noteCall(tree, (ExecutableElement) trees.getElement(getCurrentPath()));
        return super.visitMethodInvocation(tree, nothing);
    }

    @Override
    public Void visitNewClass(NewClassTree tree, Void nothing) {
        // What may be thrown is looked at by visitThrow.
        if (!(getCurrentPath().getParentPath().getLeaf() instanceof ThrowTree)) {
            noteCall(tree, (ExecutableElement) trees.getElement(getCurrentPath()));
        }
        return super.visitNewClass(tree, nothing);
    }

    private void noteCall(Tree tree, ExecutableElement called) {
        if (isOwn(called.getEnclosingElement().asType())) {
            callsOf.computeIfAbsent(methodAround(), k -> new TreeSet<>()).add(nameOf(called));
        } else {
            boolean listed = isOfNumbers(called) || isOfArrays(called) || LIBRARY_CALLS.contains(nameOf(called));
            faultIf(!listed, "library", tree);
        }
    }

    /** Some methods of StringBuilder stand in a class above it, and a List is used as the ArrayList that it is. */
    private static String ownerOf(Element member) {
        String owner = member.getEnclosingElement().getSimpleName().toString();
        switch (owner) {
            case "AbstractStringBuilder":
                return "StringBuilder";
            case "List":
                return "ArrayList";
            default:
                return owner;
        }
    }

    private static String nameOf(ExecutableElement method) {
        return ownerOf(method) + "." + method;
    }

    private static boolean isOfNumbers(ExecutableElement called) {
        return Arrays.asList("Integer", "Long", "Math").contains(ownerOf(called))
                && called.getModifiers().contains(Modifier.STATIC)
                && !called.getSimpleName().toString().endsWith("Exact")
                && called.getParameters().stream().allMatch(parameter ->
                    parameter.asType().getKind() == TypeKind.INT || parameter.asType().getKind() == TypeKind.LONG);
    }

    private static boolean isOfArrays(ExecutableElement called) {
        return ownerOf(called).equals("Arrays") && OF_ARRAYS.contains(called.getSimpleName().toString())
                && !called.toString().contains("Object") && !called.toString().contains("<");
    }

    private String methodAround() {
        for (TreePath path = getCurrentPath(); path != null; path = path.getParentPath()) {
            if (path.getLeaf() instanceof MethodTree) {
                return nameOf((ExecutableElement) trees.getElement(path));
            }
        }
        // What a field starts with is made as the object is.
        return "VowCourt.VowCourt()";
    }

    // ---- exceptions

    @Override
    public Void visitThrow(ThrowTree tree, Void nothing) {
        boolean isInConstructor = methodAround().matches("(\\w+)\\.\\1\\(.*");
        faultIf(isInConstructor || !isWritten(tree.getExpression()), "throw", tree);
        return super.visitThrow(tree, nothing);
    }

    private static boolean isWritten(ExpressionTree thrown) {
        if (!(thrown instanceof NewClassTree)) {
            return false;
        }
        List<? extends ExpressionTree> arguments = ((NewClassTree) thrown).getArguments();
        return EXCEPTIONS.contains(((NewClassTree) thrown).getIdentifier().toString())
                && (arguments.isEmpty() || arguments.size() == 1 && arguments.get(0) instanceof LiteralTree);
    }

    @Override
    public Void visitTry(TryTree tree, Void nothing) {
        faultIf(tree.getFinallyBlock() != null || !tree.getResources().isEmpty(), "catch", tree);
        return super.visitTry(tree, nothing);
    }

    @Override
    public Void visitCatch(CatchTree tree, Void nothing) {
        faultIf(!EXCEPTIONS.contains(tree.getParameter().getType().toString()), "catch", tree);
        return super.visitCatch(tree, nothing);
    }

    // ---- texts, casts, loops

    @Override
    public Void visitLiteral(LiteralTree tree, Void nothing) {
        boolean odd = tree.getValue() instanceof String
                && ((String) tree.getValue()).chars().anyMatch(sign -> sign < 1 || sign > 127);
        faultIf(odd, "sign", tree);
        return super.visitLiteral(tree, nothing);
    }

    @Override
    public Void visitBinary(BinaryTree tree, Void nothing) {
        faultIf(isText(), "join", tree);
        return super.visitBinary(tree, nothing);
    }

    @Override
    public Void visitCompoundAssignment(CompoundAssignmentTree tree, Void nothing) {
        faultIf(isText(), "join", tree);
        return super.visitCompoundAssignment(tree, nothing);
    }

    private boolean isText() {
        TypeMirror type = trees.getTypeMirror(getCurrentPath());
        return type != null && type.toString().equals("java.lang.String");
    }

    @Override
    public Void visitTypeCast(TypeCastTree tree, Void nothing) {
        TypeMirror type = trees.getTypeMirror(new TreePath(getCurrentPath(), tree.getType()));
        faultIf(!type.getKind().isPrimitive(), "cast", tree);
        return super.visitTypeCast(tree, nothing);
    }

    @Override
    public Void visitForLoop(ForLoopTree tree, Void nothing) {
        faultIf(tree.getCondition() == null || isTrue(tree.getCondition()), "loop", tree);
        return super.visitForLoop(tree, nothing);
    }

    @Override
    public Void visitWhileLoop(WhileLoopTree tree, Void nothing) {
        faultIf(isTrue(tree.getCondition()), "loop", tree);
        return super.visitWhileLoop(tree, nothing);
    }

    @Override
    public Void visitDoWhileLoop(DoWhileLoopTree tree, Void nothing) {
        faultIf(isTrue(tree.getCondition()), "loop", tree);
        return super.visitDoWhileLoop(tree, nothing);
    }

    private static boolean isTrue(ExpressionTree condition) {
        return condition.toString().replaceAll("[()]", "").equals("true");
    }

    // ---- what no program here needs

    @Override
    public Void visitLambdaExpression(LambdaExpressionTree tree, Void nothing) {
        faultIf(true, "function", tree);
        return super.visitLambdaExpression(tree, nothing);
    }

    @Override
    public Void visitMemberReference(MemberReferenceTree tree, Void nothing) {
        faultIf(true, "function", tree);
        return super.visitMemberReference(tree, nothing);
    }

    @Override
    public Void visitSynchronized(SynchronizedTree tree, Void nothing) {
        faultIf(true, "statement", tree);
        return super.visitSynchronized(tree, nothing);
    }

    @Override
    public Void visitAssert(AssertTree tree, Void nothing) {
        faultIf(true, "statement", tree);
        return super.visitAssert(tree, nothing);
    }
}
