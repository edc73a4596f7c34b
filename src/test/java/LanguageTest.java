import com.sun.source.tree.ArrayAccessTree;
import com.sun.source.tree.AssertTree;
import com.sun.source.tree.BinaryTree;
import com.sun.source.tree.ClassTree;
import com.sun.source.tree.CompilationUnitTree;
import com.sun.source.tree.CompoundAssignmentTree;
import com.sun.source.tree.ExpressionTree;
import com.sun.source.tree.ImportTree;
import com.sun.source.tree.InstanceOfTree;
import com.sun.source.tree.LambdaExpressionTree;
import com.sun.source.tree.LiteralTree;
import com.sun.source.tree.MemberReferenceTree;
import com.sun.source.tree.MethodInvocationTree;
import com.sun.source.tree.MethodTree;
import com.sun.source.tree.NewArrayTree;
import com.sun.source.tree.NewClassTree;
import com.sun.source.tree.SynchronizedTree;
import com.sun.source.tree.ThrowTree;
import com.sun.source.tree.Tree;
import com.sun.source.tree.TryTree;
import com.sun.source.tree.TypeCastTree;
import com.sun.source.tree.VariableTree;
import com.sun.source.util.JavacTask;
import com.sun.source.util.SourcePositions;
import com.sun.source.util.TreePathScanner;
import com.sun.source.util.Trees;
import java.util.HashMap;
import java.util.HashSet;
import java.util.List;
import java.util.Map;
import java.util.Set;
import java.util.TreeSet;
import javax.lang.model.element.Element;
import javax.lang.model.element.ElementKind;
import javax.lang.model.element.Modifier;
import javax.lang.model.type.TypeKind;
import javax.lang.model.type.TypeMirror;
import javax.tools.JavaCompiler;
import javax.tools.StandardJavaFileManager;
import javax.tools.ToolProvider;

/**
 * What of ../shared/LANGUAGE.md can be read off the source. It is stricter than that page: it forbids what the
 * program does without so far (a catch, a list, a lambda), so that who brings it in looks at the page first.
 */
public final class LanguageTest extends TreePathScanner<Void, Void> {
    private static final String SOURCE = "src/main/java/WhistleBook.java";
    private static final Set<String> LIBRARY = Set.of("java.lang.String.length", "java.lang.String.charAt",
            "java.lang.Math.max", "java.lang.Math.min", "java.lang.Math.floorDiv");
    private static final Set<String> TYPES = Set.of("int", "long", "boolean", "char", "int[]", "java.lang.String");
    private static final Set<String> THROWN = Set.of("IllegalArgumentException", "IndexOutOfBoundsException",
            "UnsupportedOperationException", "NoSuchElementException");
    // Each of them is above 0 where it divides: i counts from 0, the others are tested in front.
    private static final Set<String> DIVISORS = Set.of("patienceTold", "all", "(i + 1)");

    private final Trees trees;
    private final CompilationUnitTree unit;
    private final Map<Element, Set<Element>> calls = new HashMap<>();
    private final Map<Element, Integer> depths = new HashMap<>();
    private final Set<String> publicNames = new TreeSet<>();
    private final Set<String> hiddenNames = new TreeSet<>();
    private int classes;
    private MethodTree method;
    private Element caller;

    private LanguageTest(Trees trees, CompilationUnitTree unit) {
        this.trees = trees;
        this.unit = unit;
    }

    public static void main(String[] args) throws Exception {
        JavaCompiler compiler = ToolProvider.getSystemJavaCompiler();
        try (StandardJavaFileManager files = compiler.getStandardFileManager(null, null, null)) {
            JavacTask task = (JavacTask) compiler.getTask(null, files, null, List.of("-proc:none"), null,
                    files.getJavaFileObjects(SOURCE));
            CompilationUnitTree unit = task.parse().iterator().next();
            task.analyze();
            LanguageTest test = new LanguageTest(Trees.instance(task), unit);
            test.scan(unit, null);
            test.together();
        }
        Check.end("LanguageTest");
    }

    private void isSo(String rule, Tree at, boolean so) {
        String text = at.toString().strip();
        int end = text.indexOf('\n');
        Check.due(rule + ": " + (end < 0 ? text : text.substring(0, end)), so, true);
    }

    private void never(String rule, Tree at) {
        isSo(rule, at, false);
    }

    private Element elementHere() {
        return trees.getElement(getCurrentPath());
    }

    private boolean isOwn(Element element) {
        Element outermost = element;
        while (outermost.getEnclosingElement() != null
                && outermost.getEnclosingElement().getKind() != ElementKind.PACKAGE) {
            outermost = outermost.getEnclosingElement();
        }
        return outermost.getSimpleName().contentEquals("WhistleBook");
    }

    // ---- rules 1, 2, 5, 11: classes and what they hold ----

    @Override
    public Void visitImport(ImportTree node, Void nothing) {
        isSo("4: import", node, node.getQualifiedIdentifier().toString().equals("java.util.NoSuchElementException"));
        return super.visitImport(node, nothing);
    }

    @Override
    public Void visitClass(ClassTree node, Void nothing) {
        classes++;
        Set<Modifier> flags = node.getModifiers().getFlags();
        boolean isEnum = node.getKind() == Tree.Kind.ENUM;
        boolean outer = classes == 1;
        isSo("1: final, the inner ones private", node, isEnum || flags.contains(Modifier.FINAL));
        isSo("2: static inside", node, outer || isEnum || flags.contains(Modifier.STATIC));
        int fields = 0;
        for (Tree member : node.getMembers()) {
            isSo("5: no initialiser block", member, member.getKind() != Tree.Kind.BLOCK);
            if (member instanceof VariableTree) {
                VariableTree field = (VariableTree) member;
                boolean ofClass = field.getModifiers().getFlags().contains(Modifier.STATIC);
                fields += ofClass ? 0 : 1;
                isSo("5: static fields are final", member,
                        !ofClass || field.getModifiers().getFlags().contains(Modifier.FINAL));
                isSo("2: an enum's fields", member, !isEnum || ofClass
                        || Set.of("int", "long", "boolean", "String").contains(field.getType().toString()));
            }
        }
        isSo("11: some twenty fields, not " + fields, node, fields <= 20);
        return super.visitClass(node, nothing);
    }

    @Override
    public Void visitVariable(VariableTree node, Void nothing) {
        TypeMirror type = trees.getTypeMirror(getCurrentPath());
        isSo("3: type " + type, node, isAllowed(type.toString()));
        return super.visitVariable(node, nothing);
    }

    private static boolean isAllowed(String type) {
        return TYPES.contains(type) || type.matches("WhistleBook\\.\\w+(\\[])?");
    }

    @Override
    public Void visitMethod(MethodTree node, Void nothing) {
        MethodTree outerMethod = method;
        Element outerCaller = caller;
        method = node;
        caller = elementHere();
        calls.computeIfAbsent(caller, key -> new HashSet<>());
        boolean isPublic = node.getModifiers().getFlags().contains(Modifier.PUBLIC);
        (isPublic ? publicNames : hiddenNames).add(node.getName().toString());
        isSo("11: seven parameters", node, node.getParameters().size() <= 7);
        isSo("11: sixty lines", node, linesOf(node) <= 60);
        isSo("6: not of one's own", node,
                !Set.of("equals", "hashCode", "toString").contains(node.getName().toString()));
        super.visitMethod(node, nothing);
        method = outerMethod;
        caller = outerCaller;
        return null;
    }

    private long linesOf(MethodTree node) {
        SourcePositions places = trees.getSourcePositions();
        long begin = places.getStartPosition(unit, node);
        long end = places.getEndPosition(unit, node);
        return end < 0 ? 0 : unit.getLineMap().getLineNumber(end) - unit.getLineMap().getLineNumber(begin) + 1;
    }

    // ---- rules 2, 4, 6: what may not stand there, what may be called ----

    @Override
    public Void visitLambdaExpression(LambdaExpressionTree node, Void nothing) {
        never("2: no lambda", node);
        return super.visitLambdaExpression(node, nothing);
    }

    @Override
    public Void visitMemberReference(MemberReferenceTree node, Void nothing) {
        never("2: no method reference", node);
        return super.visitMemberReference(node, nothing);
    }

    @Override
    public Void visitSynchronized(SynchronizedTree node, Void nothing) {
        never("6: no synchronized", node);
        return super.visitSynchronized(node, nothing);
    }

    @Override
    public Void visitAssert(AssertTree node, Void nothing) {
        never("6: no assert", node);
        return super.visitAssert(node, nothing);
    }

    @Override
    public Void visitTry(TryTree node, Void nothing) {
        never("6: nothing is caught", node);
        return super.visitTry(node, nothing);
    }

    @Override
    public Void visitInstanceOf(InstanceOfTree node, Void nothing) {
        never("6: nothing is asked for its class", node);
        return super.visitInstanceOf(node, nothing);
    }

    @Override
    public Void visitTypeCast(TypeCastTree node, Void nothing) {
        isSo("6: casts among numbers alone", node, node.getType().toString().equals("long"));
        return super.visitTypeCast(node, nothing);
    }

    @Override
    public Void visitLiteral(LiteralTree node, Void nothing) {
        if (node.getValue() instanceof String) {
            boolean plain = ((String) node.getValue()).chars().allMatch(sign -> sign >= 1 && sign <= 127);
            isSo("4: signs 1 to 127", node, plain);
        }
        return super.visitLiteral(node, nothing);
    }

    @Override
    public Void visitThrow(ThrowTree node, Void nothing) {
        ExpressionTree thrown = node.getExpression();
        boolean made = thrown instanceof NewClassTree
                && THROWN.contains(((NewClassTree) thrown).getIdentifier().toString());
        isSo("6: throw new E()", node, made);
        isSo("6: no throw in a constructor", node, !method.getName().contentEquals("<init>"));
        return super.visitThrow(node, nothing);
    }

    @Override
    public Void visitNewClass(NewClassTree node, Void nothing) {
        Element made = elementHere();
        isSo("2: no class without a name", node, node.getClassBody() == null);
        isSo("4: what is made", node, isOwn(made) || getCurrentPath().getParentPath().getLeaf() instanceof ThrowTree);
        addCall(made);
        return super.visitNewClass(node, nothing);
    }

    @Override
    public Void visitMethodInvocation(MethodInvocationTree node, Void nothing) {
        Element called = elementHere();
        String name = called.getEnclosingElement() + "." + called.getSimpleName();
        boolean enumsOwn = called.getSimpleName().contentEquals("values") || name.startsWith("java.lang.Enum.")
                || name.startsWith("java.lang.Object.");
        isSo("4: " + name, node, isOwn(called) || enumsOwn || LIBRARY.contains(name));
        addCall(called);
        return super.visitMethodInvocation(node, nothing);
    }

    private void addCall(Element called) {
        if (caller != null && isOwn(called)) {
            calls.get(caller).add(called);
        }
    }

    // ---- rules 7, 10: indices, divisors, lengths, joined texts ----

    @Override
    public Void visitArrayAccess(ArrayAccessTree node, Void nothing) {
        String length = node.getExpression() + ".length";
        isSo("7: an index is held against " + length, node, method.getBody().toString().contains(length));
        return super.visitArrayAccess(node, nothing);
    }

    @Override
    public Void visitBinary(BinaryTree node, Void nothing) {
        isSo("10: texts are not joined by +", node,
                node.getKind() != Tree.Kind.PLUS || trees.getTypeMirror(getCurrentPath()).getKind().isPrimitive());
        if (node.getKind() == Tree.Kind.DIVIDE || node.getKind() == Tree.Kind.REMAINDER) {
            isDivisor(node.getRightOperand(), node);
        }
        return super.visitBinary(node, nothing);
    }

    @Override
    public Void visitCompoundAssignment(CompoundAssignmentTree node, Void nothing) {
        isSo("7: no divisor unseen", node, node.getKind() != Tree.Kind.DIVIDE_ASSIGNMENT
                && node.getKind() != Tree.Kind.REMAINDER_ASSIGNMENT);
        isSo("10: texts are not joined by +=", node,
                trees.getTypeMirror(getCurrentPath()).getKind() != TypeKind.DECLARED);
        return super.visitCompoundAssignment(node, nothing);
    }

    private void isDivisor(ExpressionTree divisor, Tree at) {
        String text = divisor.toString();
        boolean constant = text.matches("[1-9][0-9]*L?") || Set.of("HUNDRED", "FREES", "STATES").contains(text);
        isSo("7: a divisor", at, constant || DIVISORS.contains(text));
    }

    @Override
    public Void visitNewArray(NewArrayTree node, Void nothing) {
        for (ExpressionTree length : node.getDimensions()) {
            boolean plain = length.toString().matches("[A-Z0-9_ ()+*.]+|Code.HEAD \\* LINES");
            isSo("7: a length that is no less than 0", node, plain || length.toString().startsWith("Math.max(0, "));
        }
        isSo("12: rows are made once, but for what a text says", node,
                method == null || method.getName().contentEquals("<init>"));
        return super.visitNewArray(node, nothing);
    }

    // ---- rules 1, 8, 11: all of it together ----

    private void together() {
        Check.due("11: some twelve classes, " + classes, classes <= 12, true);
        for (String name : hiddenNames) {
            Check.due("1: a name of the face: " + name, publicNames.contains(name) && !name.equals("<init>"), false);
        }
        for (Element one : calls.keySet()) {
            boolean hidden = one.getModifiers().contains(Modifier.PRIVATE);
            Check.due("8: one calls itself who is private: " + one, hidden || !callsItself(one), true);
            if (one.getModifiers().contains(Modifier.PUBLIC)) {
                int deep = depth(one, new HashSet<>());
                Check.due("11: calls eight deep, not " + deep + ": " + one, deep <= 8, true);
            }
        }
    }

    private boolean callsItself(Element one) {
        Set<Element> seen = new HashSet<>();
        addAllCalled(one, seen);
        return seen.contains(one);
    }

    private void addAllCalled(Element one, Set<Element> seen) {
        for (Element called : calls.getOrDefault(one, Set.of())) {
            if (seen.add(called)) {
                addAllCalled(called, seen);
            }
        }
    }

    /** How many calls that are no recursion stand open at once below and with this one. */
    private int depth(Element one, Set<Element> open) {
        Integer known = depths.get(one);
        if (known != null) {
            return known;
        }
        boolean recursion = callsItself(one);
        if (!open.add(one)) {
            return 0;
        }
        int deepest = 0;
        for (Element called : calls.getOrDefault(one, Set.of())) {
            deepest = Math.max(deepest, depth(called, open));
        }
        open.remove(one);
        int deep = deepest + (recursion ? 0 : 1);
        if (!recursion) {
            depths.put(one, deep);
        }
        return deep;
    }
}
