import com.sun.source.tree.*;
import com.sun.source.util.JavacTask;
import com.sun.source.util.TreePath;
import com.sun.source.util.TreePathScanner;
import com.sun.source.util.Trees;
import java.io.IOException;
import java.nio.file.Path;
import java.util.*;
import javax.lang.model.element.*;
import javax.lang.model.type.ArrayType;
import javax.lang.model.type.TypeKind;
import javax.lang.model.type.TypeMirror;
import javax.tools.JavaCompiler;
import javax.tools.StandardJavaFileManager;
import javax.tools.ToolProvider;

/** Goes through the class as the compiler sees it, and gathers what ../shared/LANGUAGE.md rules out, by its rules' numbers. */
final class LanguageScan extends TreePathScanner<Void, Void> {
    private static final Set<String> TYPES = Set.of("java.lang.String", "java.lang.StringBuilder", "java.lang.Integer",
        "java.util.ArrayList", "java.util.List", "java.util.Iterator", "java.lang.Iterable", "java.lang.Comparable");
    private static final Map<String, Set<String>> LIBRARY = Map.of(
        "java.lang.String", Set.of("length", "charAt", "isEmpty", "equals", "indexOf", "substring", "toCharArray", "<init>"),
        "java.lang.StringBuilder", Set.of("<init>", "append", "charAt", "setCharAt", "setLength", "deleteCharAt", "reverse",
            "length", "toString"),
        "java.util.ArrayList", Set.of("<init>", "add", "get", "set", "remove", "size", "isEmpty", "clear"),
        "java.util.List", Set.of("add", "get", "set", "remove", "size", "isEmpty", "clear", "of"),
        "java.lang.System", Set.of("arraycopy"),
        "java.util.Arrays", Set.of("copyOf", "copyOfRange", "fill"));
    private static final Set<String> NUMBERS = Set.of("java.lang.Integer", "java.lang.Long", "java.lang.Math");

    final List<String> faults = new ArrayList<>();
    final Map<Element, Set<Element>> calls = new LinkedHashMap<>();
    int methods = 0;
    private final Trees trees;
    private final CompilationUnitTree unit;

    private LanguageScan(Trees trees, CompilationUnitTree unit) {
        this.trees = trees;
        this.unit = unit;
    }

    static LanguageScan of(Path source) throws IOException {
        JavaCompiler compiler = ToolProvider.getSystemJavaCompiler();
        StandardJavaFileManager files = compiler.getStandardFileManager(null, null, null);
        JavacTask task = (JavacTask) compiler.getTask(null, files, null, List.of("-proc:none"), null,
            files.getJavaFileObjects(source));
        CompilationUnitTree unit = task.parse().iterator().next();
        task.analyze();
        LanguageScan scan = new LanguageScan(Trees.instance(task), unit);
        scan.scan(new TreePath(unit), null);
        return scan;
    }

    // ---- what stands in the tree

    @Override
    public Void visitMethod(MethodTree method, Void none) {
        Element element = trees.getElement(getCurrentPath());
        calls.computeIfAbsent(element, e -> new LinkedHashSet<>());
        if (isWritten(method)) {
            methods++;
            long lines = line(end(method)) - line(start(method)) + 1;
            if (lines > 60) fault(11, "a method of " + lines + " lines", method);
            if (method.getParameters().size() > 7) fault(11, "more than seven parameters", method);
            if (!method.getThrows().isEmpty()) fault(6, "throws", method);
        }
        return super.visitMethod(method, none);
    }

    @Override
    public Void visitVariable(VariableTree variable, Void none) {
        TypeMirror type = trees.getTypeMirror(new TreePath(getCurrentPath(), variable.getType()));
        if (!isAllowed(type)) fault(3, "a type " + type, variable);
        Element element = trees.getElement(getCurrentPath());
        if (element.getKind() == ElementKind.FIELD && element.getModifiers().contains(Modifier.STATIC)) {
            if (!element.getModifiers().contains(Modifier.FINAL)) fault(5, "static and not final", variable);
            String name = type.toString();
            boolean isText = variable.getInitializer() != null && Set.of("int", "long", "boolean", "char",
                "java.lang.String", "int[]", "long[]", "char[]", "byte[]").contains(name);
            if (!isText) fault(5, "a static field of type " + name, variable);
        }
        return super.visitVariable(variable, none);
    }

    @Override
    public Void visitMethodInvocation(MethodInvocationTree call, Void none) {
        Element called = trees.getElement(new TreePath(getCurrentPath(), call.getMethodSelect()));
        if (called != null) noteCall(called, call);
        return super.visitMethodInvocation(call, none);
    }

    @Override
    public Void visitNewClass(NewClassTree made, Void none) {
        if (made.getClassBody() != null) fault(2, "an anonymous class", made);
        Element called = trees.getElement(getCurrentPath());
        if (called != null) noteCall(called, made);
        return super.visitNewClass(made, none);
    }

    private void noteCall(Element called, Tree at) {
        String owner = called.getEnclosingElement().toString();
        String name = called.getSimpleName().toString();
        if (isOwn(called)) {
            Element caller = caller();
            if (caller != null) calls.computeIfAbsent(caller, e -> new LinkedHashSet<>()).add(called);
        } else if (NUMBERS.contains(owner)) {
            if (name.endsWith("Exact") || !called.getModifiers().contains(Modifier.STATIC)) fault(4, owner + "." + name, at);
        } else if (!name.equals("clone") && !(owner.equals("java.lang.Object") && name.equals("<init>"))
            && !LIBRARY.getOrDefault(owner, Set.of()).contains(name)) {
            fault(4, owner + "." + name, at);
        }
    }

    @Override
    public Void visitClass(ClassTree one, Void none) {
        Tree parent = getCurrentPath().getParentPath().getLeaf();
        if (parent.getKind() != Tree.Kind.CLASS && parent.getKind() != Tree.Kind.COMPILATION_UNIT
            && parent.getKind() != Tree.Kind.ENUM && parent.getKind() != Tree.Kind.INTERFACE) {
            fault(2, "a local class", one);
        }
        return super.visitClass(one, none);
    }

    @Override
    public Void visitBlock(BlockTree block, Void none) {
        if (block.isStatic()) fault(5, "a static initialiser", block);
        return super.visitBlock(block, none);
    }

    @Override
    public Void visitBinary(BinaryTree binary, Void none) {
        TypeMirror left = typeOf(binary.getLeftOperand());
        TypeMirror right = typeOf(binary.getRightOperand());
        boolean equals = binary.getKind() == Tree.Kind.EQUAL_TO || binary.getKind() == Tree.Kind.NOT_EQUAL_TO;
        if (equals && (isText(left) && isText(right))) fault(6, "== of texts or Integers", binary);
        if (binary.getKind() == Tree.Kind.PLUS && (isText(left) || isText(right))) fault(10, "a text joined by +", binary);
        return super.visitBinary(binary, none);
    }

    @Override
    public Void visitLambdaExpression(LambdaExpressionTree tree, Void none) {
        return banned(2, "a lambda", tree);
    }

    @Override
    public Void visitMemberReference(MemberReferenceTree tree, Void none) {
        return banned(2, "a method reference", tree);
    }

    @Override
    public Void visitThrow(ThrowTree tree, Void none) {
        return banned(6, "throw", tree);
    }

    @Override
    public Void visitTry(TryTree tree, Void none) {
        return banned(6, "try", tree);
    }

    @Override
    public Void visitSynchronized(SynchronizedTree tree, Void none) {
        return banned(6, "synchronized", tree);
    }

    @Override
    public Void visitAssert(AssertTree tree, Void none) {
        return banned(6, "assert", tree);
    }

    // ---- how deep calls go

    /** The most methods that stand open at once, calls that go round in a ring counted once. */
    List<String> deepestCalls() {
        List<String> deepest = new ArrayList<>();
        for (Element method : calls.keySet()) {
            List<String> chain = chain(method, new HashSet<>(), new HashMap<>());
            if (chain.size() > deepest.size()) deepest = chain;
        }
        return deepest;
    }

    private List<String> chain(Element method, Set<Element> open, Map<Element, List<String>> known) {
        List<String> longest = known.get(method);
        if (longest != null) return longest;
        longest = new ArrayList<>();
        open.add(method);
        for (Element called : calls.getOrDefault(method, Set.of())) {
            if (open.contains(called)) continue;
            List<String> chain = chain(called, open, known);
            if (chain.size() > longest.size()) longest = chain;
        }
        open.remove(method);
        List<String> whole = new ArrayList<>();
        whole.add(method.toString());
        whole.addAll(longest);
        known.put(method, whole);
        return whole;
    }

    // ---- small things

    private Element caller() {
        for (TreePath path = getCurrentPath(); path != null; path = path.getParentPath()) {
            if (path.getLeaf() instanceof MethodTree) return trees.getElement(path);
        }
        return null;
    }

    private TypeMirror typeOf(Tree tree) {
        return trees.getTypeMirror(new TreePath(getCurrentPath(), tree));
    }

    private static boolean isText(TypeMirror type) {
        return type != null && (type.toString().equals("java.lang.String") || type.toString().equals("java.lang.Integer"));
    }

    private static boolean isOwn(Element element) {
        for (Element e = element; e != null; e = e.getEnclosingElement()) {
            if (e.toString().equals("StrangerVotes")) return true;
        }
        return false;
    }

    private boolean isAllowed(TypeMirror type) {
        if (type == null) return false;
        if (type.getKind().isPrimitive()) return true;
        if (type.getKind() == TypeKind.TYPEVAR) return true;
        if (type instanceof ArrayType) return isAllowedRow(((ArrayType) type).getComponentType());
        String name = type.toString().replaceAll("<.*>", "");
        return name.startsWith("StrangerVotes") || TYPES.contains(name);
    }

    private boolean isAllowedRow(TypeMirror of) {
        if (of.getKind().isPrimitive()) return true;
        if (of instanceof ArrayType) return ((ArrayType) of).getComponentType().getKind().isPrimitive();
        return of.toString().startsWith("StrangerVotes");
    }

    private boolean isWritten(MethodTree method) {
        return start(method) >= 0 && end(method) > start(method);
    }

    private long start(Tree tree) {
        return trees.getSourcePositions().getStartPosition(unit, tree);
    }

    private long end(Tree tree) {
        return trees.getSourcePositions().getEndPosition(unit, tree);
    }

    private long line(long position) {
        return unit.getLineMap().getLineNumber(position);
    }

    private Void banned(int rule, String what, Tree at) {
        fault(rule, what, at);
        return null;
    }

    private void fault(int rule, String what, Tree at) {
        faults.add("rule " + rule + ", line " + line(start(at)) + ": " + what);
    }
}
