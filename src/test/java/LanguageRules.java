import com.sun.source.tree.AssertTree;
import com.sun.source.tree.BinaryTree;
import com.sun.source.tree.BlockTree;
import com.sun.source.tree.CatchTree;
import com.sun.source.tree.ClassTree;
import com.sun.source.tree.CompilationUnitTree;
import com.sun.source.tree.CompoundAssignmentTree;
import com.sun.source.tree.DoWhileLoopTree;
import com.sun.source.tree.ExpressionTree;
import com.sun.source.tree.ForLoopTree;
import com.sun.source.tree.ImportTree;
import com.sun.source.tree.LambdaExpressionTree;
import com.sun.source.tree.LiteralTree;
import com.sun.source.tree.MemberReferenceTree;
import com.sun.source.tree.MethodInvocationTree;
import com.sun.source.tree.MethodTree;
import com.sun.source.tree.NewClassTree;
import com.sun.source.tree.PackageTree;
import com.sun.source.tree.SynchronizedTree;
import com.sun.source.tree.ThrowTree;
import com.sun.source.tree.Tree;
import com.sun.source.tree.TryTree;
import com.sun.source.tree.UnionTypeTree;
import com.sun.source.tree.VariableTree;
import com.sun.source.tree.WhileLoopTree;
import com.sun.source.util.JavacTask;
import com.sun.source.util.TreePath;
import com.sun.source.util.TreePathScanner;
import com.sun.source.util.Trees;
import java.io.IOException;
import java.util.LinkedHashMap;
import java.util.LinkedHashSet;
import java.util.List;
import java.util.Map;
import java.util.Set;
import java.util.TreeSet;
import javax.lang.model.element.Element;
import javax.lang.model.element.ElementKind;
import javax.lang.model.element.ExecutableElement;
import javax.lang.model.element.Modifier;
import javax.lang.model.element.VariableElement;
import javax.lang.model.type.ArrayType;
import javax.lang.model.type.TypeKind;
import javax.lang.model.type.TypeMirror;
import javax.tools.JavaFileObject;
import javax.tools.ToolProvider;

/**
 * Those rules of LANGUAGE.md that the compiler's own tree of a source shows. It finds what breaks
 * one of them. It can't see whether an index, a divisor or a reference is looked at first (rule 7),
 * nor whether a recursion has its guard (rule 8).
 */
final class LanguageRules extends TreePathScanner<Void, Void> {
    private static final int MOST_PARAMETERS = 7;
    private static final int MOST_LINES = 60;
    private static final int MOST_DEEP = 8;
    private static final int MOST_CLASSES = 12;
    private static final int MOST_FIELDS = 20;

    private static final Set<String> THROWN = Set.of("java.lang.IllegalStateException",
        "java.lang.IllegalArgumentException", "java.lang.IndexOutOfBoundsException", "java.lang.ArithmeticException",
        "java.lang.UnsupportedOperationException", "java.util.NoSuchElementException", "java.lang.RuntimeException");
    private static final Set<String> IMPORTED = Set.of("java.util.ArrayList", "java.util.List", "java.util.Arrays",
        "java.util.Iterator", "java.util.NoSuchElementException");
    private static final Set<String> OBJECTS = Set.of("java.lang.String", "java.lang.StringBuilder",
        "java.lang.Integer", "java.util.ArrayList", "java.util.List", "java.util.Iterator");
    private static final Set<String> OF_NUMBERS = Set.of("java.lang.Math", "java.lang.Integer", "java.lang.Long");
    private static final Map<String, Set<String>> CALLS = Map.of(
        "java.lang.String", Set.of("length", "charAt", "isEmpty", "equals", "indexOf", "substring", "toCharArray"),
        "java.lang.StringBuilder", Set.of("append", "charAt", "setCharAt", "setLength", "deleteCharAt", "reverse",
            "length", "toString"),
        "java.lang.AbstractStringBuilder", Set.of("charAt", "setCharAt", "setLength", "length"),
        "java.util.ArrayList", Set.of("add", "get", "set", "remove", "size", "isEmpty", "clear"),
        "java.util.List", Set.of("add", "get", "set", "remove", "size", "isEmpty", "clear", "of"),
        "java.lang.System", Set.of("arraycopy"),
        "java.util.Arrays", Set.of("copyOf", "copyOfRange", "fill"),
        "Array", Set.of("clone"));

    private final Set<String> broken = new LinkedHashSet<>();
    private final Map<Element, Set<Element>> calls = new LinkedHashMap<>();
    private final Trees trees;
    private final CompilationUnitTree unit;
    private int classes = 0;

    private LanguageRules(Trees trees, CompilationUnitTree unit) {
        this.trees = trees;
        this.unit = unit;
    }

    /** What breaks a rule, each as the rule's number, a colon, and where and what it is. */
    static Set<String> brokenBy(JavaFileObject source) throws IOException {
        List<String> options = List.of("--release", "17", "-proc:none");
        JavacTask task = (JavacTask) ToolProvider.getSystemJavaCompiler()
            .getTask(null, null, null, options, null, List.of(source));
        CompilationUnitTree unit = task.parse().iterator().next();
        task.analyze();
        LanguageRules rules = new LanguageRules(Trees.instance(task), unit);
        rules.scan(unit, null);
        rules.lookAtTheWhole();
        return rules.broken;
    }

    private void holds(boolean holds, int rule, String what) {
        Tree here = getCurrentPath() == null ? unit : getCurrentPath().getLeaf();
        if (!holds) {
            broken.add(rule + ": line " + lineOf(trees.getSourcePositions().getStartPosition(unit, here)) + ", " + what);
        }
    }

    private long lineOf(long position) {
        return unit.getLineMap().getLineNumber(Math.max(position, 0L));
    }

    private void lookAtTheWhole() {
        holds(classes <= MOST_CLASSES, 11, classes + " classes");
        for (Element method : calls.keySet()) {
            int deep = depthFrom(method, new LinkedHashSet<>());
            holds(deep <= MOST_DEEP, 11, deep + " calls deep from " + method);
        }
    }

    /** How many calls stand open at the most, this one counted; those that come back to an open one are not. */
    private int depthFrom(Element method, Set<Element> open) {
        if (!open.add(method)) {
            return 0;
        }
        int deepest = 0;
        for (Element called : calls.getOrDefault(method, Set.of())) {
            deepest = Math.max(deepest, depthFrom(called, open));
        }
        open.remove(method);
        return deepest + 1;
    }

    private Element elementOf(Tree tree) {
        return trees.getElement(new TreePath(getCurrentPath(), tree));
    }

    private TypeMirror typeOf(Tree tree) {
        return trees.getTypeMirror(new TreePath(getCurrentPath(), tree));
    }

    private static String nameOf(TypeMirror type) {
        return type.toString().replaceAll("<.*", "");
    }

    private static boolean isFloating(TypeMirror type) {
        return type.getKind() == TypeKind.DOUBLE || type.getKind() == TypeKind.FLOAT;
    }

    /** The method round this place of the tree, or null. */
    private MethodTree enclosingMethod() {
        for (TreePath path = getCurrentPath(); path != null; path = path.getParentPath()) {
            if (path.getLeaf() instanceof MethodTree) {
                return (MethodTree) path.getLeaf();
            }
        }
        return null;
    }

    @Override
    public Void visitPackage(PackageTree tree, Void none) {
        holds(false, 1, "a package line");
        return super.visitPackage(tree, none);
    }

    @Override
    public Void visitImport(ImportTree tree, Void none) {
        String name = tree.getQualifiedIdentifier().toString();
        holds(IMPORTED.contains(name), 4, "import " + name);
        return null;
    }

    @Override
    public Void visitClass(ClassTree tree, Void none) {
        classes++;
        holds(enclosingMethod() == null, 2, "a class inside a method");
        int fields = 0;
        for (Tree member : tree.getMembers()) {
            boolean field = member instanceof VariableTree;
            if (field && !((VariableTree) member).getModifiers().getFlags().contains(Modifier.STATIC)) {
                fields++;
            }
        }
        holds(fields <= MOST_FIELDS, 11, fields + " fields");
        return super.visitClass(tree, none);
    }

    @Override
    public Void visitLambdaExpression(LambdaExpressionTree tree, Void none) {
        holds(false, 2, "a lambda");
        return super.visitLambdaExpression(tree, none);
    }

    @Override
    public Void visitMemberReference(MemberReferenceTree tree, Void none) {
        holds(false, 2, "a method reference");
        return super.visitMemberReference(tree, none);
    }

    @Override
    public Void visitVariable(VariableTree tree, Void none) {
        VariableElement variable = (VariableElement) trees.getElement(getCurrentPath());
        TypeMirror type = variable.asType();
        boolean caught = getCurrentPath().getParentPath().getLeaf() instanceof CatchTree;
        holds(caught || isLeft(type), 3, type + " " + tree.getName());
        if (variable.getKind() == ElementKind.FIELD && variable.getModifiers().contains(Modifier.STATIC)) {
            holds(variable.getModifiers().contains(Modifier.FINAL), 5, tree.getName() + " is not final");
            holds(mayBeStatic(type), 5, "static " + type + " " + tree.getName());
        }
        return super.visitVariable(tree, none);
    }

    private static boolean isLeft(TypeMirror type) {
        if (type.getKind() != TypeKind.ARRAY) {
            return type.getKind().isPrimitive() || isOwnType(type) || OBJECTS.contains(nameOf(type));
        }
        TypeMirror item = ((ArrayType) type).getComponentType();
        if (item.getKind() == TypeKind.ARRAY) {
            return ((ArrayType) item).getComponentType().getKind().isPrimitive();
        }
        return item.getKind().isPrimitive() || isOwnType(item);
    }

    private static boolean isOwnType(TypeMirror type) {
        return nameOf(type).matches("LoopMixer(\\..*)?") || type.getKind() == TypeKind.TYPEVAR;
    }

    private static boolean mayBeStatic(TypeMirror type) {
        Set<String> kept = Set.of("int", "long", "boolean", "char", "java.lang.String", "int[]", "long[]", "char[]",
            "byte[]");
        TypeMirror item = type.getKind() == TypeKind.ARRAY ? ((ArrayType) type).getComponentType() : type;
        return kept.contains(type.toString()) || isOwnType(item);
    }

    @Override
    public Void visitBlock(BlockTree tree, Void none) {
        holds(!tree.isStatic(), 5, "a static block");
        return super.visitBlock(tree, none);
    }

    @Override
    public Void visitMethod(MethodTree tree, Void none) {
        calls.computeIfAbsent(trees.getElement(getCurrentPath()), method -> new LinkedHashSet<>());
        long first = lineOf(trees.getSourcePositions().getStartPosition(unit, tree));
        long last = lineOf(trees.getSourcePositions().getEndPosition(unit, tree));
        holds(last - first < MOST_LINES, 11, tree.getName() + " is long");
        holds(tree.getParameters().size() <= MOST_PARAMETERS, 11, tree.getName() + " has many parameters");
        holds(!tree.getModifiers().getFlags().contains(Modifier.SYNCHRONIZED), 6, "synchronized");
        return super.visitMethod(tree, none);
    }

    @Override
    public Void visitMethodInvocation(MethodInvocationTree tree, Void none) {
        Element called = elementOf(tree.getMethodSelect());
        if (called instanceof ExecutableElement && !called.getSimpleName().contentEquals("<init>")) {
            if (isOwnType(called.getEnclosingElement().asType())) {
                noteCall(called);
            } else {
                holds(isLeft((ExecutableElement) called), 4, "a call of " + called.getEnclosingElement() + "." + called);
            }
        }
        return super.visitMethodInvocation(tree, none);
    }

    private void noteCall(Element called) {
        MethodTree method = enclosingMethod();
        if (method != null) {
            Element caller = trees.getElement(TreePath.getPath(unit, method));
            calls.computeIfAbsent(caller, none -> new LinkedHashSet<>()).add(called);
        }
    }

    private static boolean isLeft(ExecutableElement called) {
        String owner = called.getEnclosingElement().toString().replaceAll("<.*", "");
        String name = called.getSimpleName().toString();
        if (!OF_NUMBERS.contains(owner)) {
            return CALLS.getOrDefault(owner, Set.of()).contains(name);
        }
        boolean whole = called.getModifiers().contains(Modifier.STATIC) && !name.endsWith("Exact");
        for (VariableElement parameter : called.getParameters()) {
            whole &= Set.of("int", "long").contains(parameter.asType().toString());
        }
        return whole && !isFloating(called.getReturnType());
    }

    @Override
    public Void visitNewClass(NewClassTree tree, Void none) {
        TypeMirror type = typeOf(tree.getIdentifier());
        String name = nameOf(type);
        holds(isOwnType(type) || OBJECTS.contains(name) || THROWN.contains(name), 4, "new " + name);
        return super.visitNewClass(tree, none);
    }

    @Override
    public Void visitBinary(BinaryTree tree, Void none) {
        TypeMirror type = typeOf(tree);
        holds(tree.getKind() != Tree.Kind.REMAINDER || !isFloating(type), 3, "a rest of " + type);
        holds(!nameOf(type).equals("java.lang.String"), 10, "texts joined by +");
        return super.visitBinary(tree, none);
    }

    @Override
    public Void visitCompoundAssignment(CompoundAssignmentTree tree, Void none) {
        boolean rest = tree.getKind() == Tree.Kind.REMAINDER_ASSIGNMENT;
        boolean floating = isFloating(typeOf(tree.getVariable())) || isFloating(typeOf(tree.getExpression()));
        holds(!rest || !floating, 3, "a rest of " + typeOf(tree.getVariable()));
        holds(!nameOf(typeOf(tree)).equals("java.lang.String"), 10, "texts joined by +");
        return super.visitCompoundAssignment(tree, none);
    }

    @Override
    public Void visitTry(TryTree tree, Void none) {
        holds(tree.getFinallyBlock() == null && tree.getResources().isEmpty(), 6, "finally, or resources");
        return super.visitTry(tree, none);
    }

    @Override
    public Void visitCatch(CatchTree tree, Void none) {
        Tree type = tree.getParameter().getType();
        List<? extends Tree> types = type instanceof UnionTypeTree
            ? ((UnionTypeTree) type).getTypeAlternatives() : List.of(type);
        Set<String> names = new TreeSet<>();
        for (Tree one : types) {
            names.add(nameOf(trees.getTypeMirror(TreePath.getPath(unit, one))));
        }
        holds(THROWN.containsAll(names), 6, "a catch of " + names);
        return super.visitCatch(tree, none);
    }

    @Override
    public Void visitThrow(ThrowTree tree, Void none) {
        ExpressionTree thrown = tree.getExpression();
        holds(thrown instanceof NewClassTree && THROWN.contains(nameOf(typeOf(thrown))), 6, "throw " + thrown);
        MethodTree method = enclosingMethod();
        holds(method == null || !method.getName().contentEquals("<init>"), 6, "throw in a constructor");
        return super.visitThrow(tree, none);
    }

    @Override
    public Void visitSynchronized(SynchronizedTree tree, Void none) {
        holds(false, 6, "synchronized");
        return super.visitSynchronized(tree, none);
    }

    @Override
    public Void visitAssert(AssertTree tree, Void none) {
        holds(false, 6, "assert");
        return super.visitAssert(tree, none);
    }

    @Override
    public Void visitForLoop(ForLoopTree tree, Void none) {
        hasAnEnd(tree.getCondition());
        return super.visitForLoop(tree, none);
    }

    @Override
    public Void visitWhileLoop(WhileLoopTree tree, Void none) {
        hasAnEnd(tree.getCondition());
        return super.visitWhileLoop(tree, none);
    }

    @Override
    public Void visitDoWhileLoop(DoWhileLoopTree tree, Void none) {
        hasAnEnd(tree.getCondition());
        return super.visitDoWhileLoop(tree, none);
    }

    private void hasAnEnd(ExpressionTree condition) {
        String text = condition == null ? "" : condition.toString();
        holds(!text.isEmpty() && !text.equals("true") && !text.equals("(true)"), 9, "a loop without an end");
    }

    @Override
    public Void visitLiteral(LiteralTree tree, Void none) {
        if (tree.getValue() instanceof String) {
            holds(((String) tree.getValue()).matches("[\\x01-\\x7F]*"), 4, "a text of other signs");
        }
        return super.visitLiteral(tree, none);
    }
}
