import com.sun.source.tree.BinaryTree;
import com.sun.source.tree.ClassTree;
import com.sun.source.tree.CompilationUnitTree;
import com.sun.source.tree.CompoundAssignmentTree;
import com.sun.source.tree.DoWhileLoopTree;
import com.sun.source.tree.ExpressionTree;
import com.sun.source.tree.ForLoopTree;
import com.sun.source.tree.ImportTree;
import com.sun.source.tree.LiteralTree;
import com.sun.source.tree.MethodInvocationTree;
import com.sun.source.tree.MethodTree;
import com.sun.source.tree.NewArrayTree;
import com.sun.source.tree.NewClassTree;
import com.sun.source.tree.ThrowTree;
import com.sun.source.tree.Tree;
import com.sun.source.tree.TypeCastTree;
import com.sun.source.tree.VariableTree;
import com.sun.source.tree.WhileLoopTree;
import com.sun.source.util.JavacTask;
import com.sun.source.util.SourcePositions;
import com.sun.source.util.TreePath;
import com.sun.source.util.TreePathScanner;
import com.sun.source.util.Trees;
import java.io.IOException;
import java.nio.file.Path;
import java.util.ArrayDeque;
import java.util.Deque;
import java.util.LinkedHashMap;
import java.util.LinkedHashSet;
import java.util.List;
import java.util.Map;
import java.util.Set;
import javax.lang.model.element.Element;
import javax.lang.model.element.Modifier;
import javax.lang.model.type.ArrayType;
import javax.lang.model.type.TypeKind;
import javax.lang.model.type.TypeMirror;
import javax.tools.JavaCompiler;
import javax.tools.StandardJavaFileManager;
import javax.tools.ToolProvider;

/**
 * The class keeps to those rules of ../shared/LANGUAGE.md that its source shows, and in places to less than they leave:
 * it catches nothing, and makes nothing behind its constructor but exceptions. A wrong answer tells the rule.
 */
public final class RulesTest extends TreePathScanner<Void, Void> {
    private static final Set<String> IMPORTS = Set.of("java.util.Arrays", "java.util.NoSuchElementException");
    private static final Set<String> LIBRARY = Set.of("String.length", "String.charAt", "Math.abs", "Math.max",
        "Math.min", "Arrays.fill", "System.arraycopy", "Object.<init>");
    private static final Set<String> EXCEPTIONS = Set.of("IllegalStateException", "IllegalArgumentException",
        "IndexOutOfBoundsException", "ArithmeticException", "UnsupportedOperationException", "NoSuchElementException",
        "RuntimeException");
    private static final Map<Tree.Kind, Integer> NOWHERE = Map.of(Tree.Kind.LAMBDA_EXPRESSION, 2,
        Tree.Kind.MEMBER_REFERENCE, 2, Tree.Kind.TRY, 6, Tree.Kind.SYNCHRONIZED, 6, Tree.Kind.ASSERT, 6);
    // Both are above 0: what stands as it is, and a power of 10, as tens() answers one for any argument.
    private static final String DIVISOR = "[1-9]\\d*|tens\\(.*\\)";

    private final Trees trees;
    private final SourcePositions places;
    private final CompilationUnitTree unit;
    private final Map<Element, Set<Element>> calls = new LinkedHashMap<>();
    private final Deque<Element> methods = new ArrayDeque<>();
    private int classes;

    private RulesTest(JavacTask task, CompilationUnitTree unit) {
        this.trees = Trees.instance(task);
        this.places = trees.getSourcePositions();
        this.unit = unit;
    }

    public static void main(String[] args) throws IOException {
        Path source = Path.of(args.length > 0 ? args[0] : "src/main/java/RosettaMill.java");
        JavaCompiler compiler = ToolProvider.getSystemJavaCompiler();
        StandardJavaFileManager files = compiler.getStandardFileManager(null, null, null);
        JavacTask task = (JavacTask) compiler.getTask(null, files, null, List.of("-proc:none"), null,
            files.getJavaFileObjects(source));
        CompilationUnitTree unit = task.parse().iterator().next();
        task.analyze();
        RulesTest test = new RulesTest(task, unit);
        test.scan(unit, null);
        test.dueChains();
        Bench.due("rule 11: classes, at most some twelve", test.classes <= 12, true);
        Bench.end("RulesTest");
    }

    private void rule(int number, Tree tree, boolean kept) {
        if (!kept) {
            long line = line(places.getStartPosition(unit, tree));
            Bench.due("whether rule " + number + " is kept in line " + line, false, true);
        }
    }

    private long line(long position) {
        return position < 0 ? 0 : unit.getLineMap().getLineNumber(position);
    }

    private Element element() {
        return trees.getElement(getCurrentPath());
    }

    private TypeMirror typeOf(Tree tree) {
        return trees.getTypeMirror(new TreePath(getCurrentPath(), tree));
    }

    private static boolean isFraction(TypeMirror type) {
        return type.getKind() == TypeKind.FLOAT || type.getKind() == TypeKind.DOUBLE;
    }

    private static boolean isText(TypeMirror type) {
        return type.toString().equals("java.lang.String");
    }

    @Override
    public Void scan(Tree tree, Void none) {
        if (tree != null && NOWHERE.containsKey(tree.getKind())) {
            rule(NOWHERE.get(tree.getKind()), tree, false);
        }
        return super.scan(tree, none);
    }

    // ---- what is declared

    @Override
    public Void visitImport(ImportTree tree, Void none) {
        rule(4, tree, !tree.isStatic() && IMPORTS.contains(tree.getQualifiedIdentifier().toString()));
        return super.visitImport(tree, none);
    }

    @Override
    public Void visitClass(ClassTree tree, Void none) {
        classes++;
        Set<Modifier> marks = tree.getModifiers().getFlags();
        boolean outer = getCurrentPath().getParentPath().getLeaf() == unit;
        rule(1, tree, outer ? marks.equals(Set.of(Modifier.PUBLIC, Modifier.FINAL))
            : marks.contains(Modifier.STATIC) && marks.contains(Modifier.PRIVATE));
        long fields = tree.getMembers().stream().filter(member -> member instanceof VariableTree
            && !((VariableTree) member).getModifiers().getFlags().contains(Modifier.STATIC)).count();
        rule(11, tree, fields <= 20);
        rule(5, tree, tree.getMembers().stream().noneMatch(member -> member.getKind() == Tree.Kind.BLOCK));
        return super.visitClass(tree, none);
    }

    @Override
    public Void visitMethod(MethodTree tree, Void none) {
        Element method = element();
        calls.put(method, new LinkedHashSet<>());
        methods.push(method);
        long lines = line(places.getEndPosition(unit, tree)) - line(places.getStartPosition(unit, tree)) + 1;
        rule(11, tree, lines <= 60 && tree.getParameters().size() <= 7);
        rule(6, tree, !method.getModifiers().contains(Modifier.SYNCHRONIZED));
        super.visitMethod(tree, none);
        methods.pop();
        return null;
    }

    @Override
    public Void visitVariable(VariableTree tree, Void none) {
        Element variable = element();
        TypeMirror type = variable.asType();
        TypeMirror part = type instanceof ArrayType ? ((ArrayType) type).getComponentType() : type;
        rule(3, tree, part.getKind().isPrimitive() || isText(type) || part.toString().startsWith("RosettaMill"));
        if (variable.getModifiers().contains(Modifier.STATIC)) {
            boolean writtenOut = tree.getInitializer() != null && (tree.getInitializer() instanceof NewArrayTree
                || tree.getInitializer() instanceof LiteralTree || tree.getInitializer().toString().matches("-\\d+"));
            rule(5, tree, variable.getModifiers().contains(Modifier.FINAL) && writtenOut);
        }
        return super.visitVariable(tree, none);
    }

    // ---- what is called, made and thrown

    @Override
    public Void visitMethodInvocation(MethodInvocationTree tree, Void none) {
        Element called = element();
        Element owner = called.getEnclosingElement();
        if (owner.toString().startsWith("RosettaMill")) {
            calls.get(methods.peek()).add(called);
        } else {
            rule(4, tree, LIBRARY.contains(owner.getSimpleName() + "." + called.getSimpleName()));
            rule(3, tree, tree.getArguments().stream().noneMatch(argument -> isFraction(typeOf(argument))));
        }
        return super.visitMethodInvocation(tree, none);
    }

    @Override
    public Void visitNewClass(NewClassTree tree, Void none) {
        boolean thrown = getCurrentPath().getParentPath().getLeaf() instanceof ThrowTree;
        rule(12, tree, thrown || isBeingMade());
        rule(2, tree, tree.getClassBody() == null);
        return super.visitNewClass(tree, none);
    }

    @Override
    public Void visitNewArray(NewArrayTree tree, Void none) {
        rule(12, tree, isBeingMade());
        return super.visitNewArray(tree, none);
    }

    private boolean isBeingMade() {
        return methods.isEmpty() || methods.peek().getSimpleName().contentEquals("<init>");
    }

    @Override
    public Void visitThrow(ThrowTree tree, Void none) {
        ExpressionTree thrown = tree.getExpression();
        rule(6, tree, !isBeingMade() && thrown instanceof NewClassTree
            && EXCEPTIONS.contains(((NewClassTree) thrown).getIdentifier().toString())
            && ((NewClassTree) thrown).getArguments().stream().allMatch(text -> text instanceof LiteralTree));
        return super.visitThrow(tree, none);
    }

    // ---- what is told and worked out

    @Override
    public Void visitLiteral(LiteralTree tree, Void none) {
        if (tree.getValue() instanceof String || tree.getValue() instanceof Character) {
            rule(4, tree, tree.getValue().toString().chars().allMatch(sign -> sign >= 1 && sign <= 127));
        }
        return super.visitLiteral(tree, none);
    }

    @Override
    public Void visitTypeCast(TypeCastTree tree, Void none) {
        rule(7, tree, typeOf(tree.getType()).getKind().isPrimitive());
        return super.visitTypeCast(tree, none);
    }

    @Override
    public Void visitBinary(BinaryTree tree, Void none) {
        TypeMirror left = typeOf(tree.getLeftOperand());
        TypeMirror right = typeOf(tree.getRightOperand());
        rule(10, tree, !isText(left) && !isText(right));
        boolean fraction = isFraction(left) || isFraction(right);
        if (tree.getKind() == Tree.Kind.REMAINDER || tree.getKind() == Tree.Kind.DIVIDE && !fraction) {
            rule(3, tree, !fraction);
            rule(7, tree, tree.getRightOperand().toString().matches(DIVISOR));
        }
        return super.visitBinary(tree, none);
    }

    @Override
    public Void visitCompoundAssignment(CompoundAssignmentTree tree, Void none) {
        if (tree.getKind() == Tree.Kind.DIVIDE_ASSIGNMENT || tree.getKind() == Tree.Kind.REMAINDER_ASSIGNMENT) {
            rule(7, tree, tree.getExpression().toString().matches(DIVISOR));
        }
        return super.visitCompoundAssignment(tree, none);
    }

    // ---- loops, and calls within calls

    private void dueEnd(Tree loop, ExpressionTree condition) {
        rule(9, loop, condition != null && condition.toString().matches(".*[<>].*"));
    }

    @Override
    public Void visitForLoop(ForLoopTree tree, Void none) {
        dueEnd(tree, tree.getCondition());
        return super.visitForLoop(tree, none);
    }

    @Override
    public Void visitWhileLoop(WhileLoopTree tree, Void none) {
        dueEnd(tree, tree.getCondition());
        return super.visitWhileLoop(tree, none);
    }

    @Override
    public Void visitDoWhileLoop(DoWhileLoopTree tree, Void none) {
        dueEnd(tree, tree.getCondition());
        return super.visitDoWhileLoop(tree, none);
    }

    private void dueChains() {
        for (Element method : calls.keySet()) {
            String name = method.getEnclosingElement() + "." + method;
            Bench.due("rule 11: calls open in " + name + " at most eight deep",
                longestChain(method, new LinkedHashSet<>()) <= 8, true);
            if (callsItself(method, method, new LinkedHashSet<>())) {
                Bench.due("rule 8: " + name + ", which calls itself, is private",
                    method.getModifiers().contains(Modifier.PRIVATE), true);
            }
        }
    }

    /** What a method calls, and what may stand for that in a class below. */
    private Set<Element> calledBy(Element method) {
        Set<Element> called = new LinkedHashSet<>();
        for (Element one : calls.getOrDefault(method, Set.of())) {
            called.add(one);
            for (Element other : calls.keySet()) {
                if (one.getModifiers().contains(Modifier.ABSTRACT) && other.toString().equals(one.toString())) {
                    called.add(other);
                }
            }
        }
        return called;
    }

    /** A method that calls itself counts once in a chain. */
    private int longestChain(Element method, Set<Element> open) {
        int longest = 0;
        open.add(method);
        for (Element one : calledBy(method)) {
            longest = Math.max(longest, open.contains(one) ? 0 : longestChain(one, open));
        }
        open.remove(method);
        return longest + 1;
    }

    private boolean callsItself(Element method, Element from, Set<Element> seen) {
        for (Element one : calledBy(from)) {
            if (one == method || seen.add(one) && callsItself(method, one, seen)) {
                return true;
            }
        }
        return false;
    }
}
