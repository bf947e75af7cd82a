import com.sun.source.tree.ArrayAccessTree;
import com.sun.source.tree.AssertTree;
import com.sun.source.tree.AssignmentTree;
import com.sun.source.tree.BinaryTree;
import com.sun.source.tree.BlockTree;
import com.sun.source.tree.ClassTree;
import com.sun.source.tree.CompilationUnitTree;
import com.sun.source.tree.CompoundAssignmentTree;
import com.sun.source.tree.DoWhileLoopTree;
import com.sun.source.tree.EnhancedForLoopTree;
import com.sun.source.tree.ExpressionTree;
import com.sun.source.tree.ForLoopTree;
import com.sun.source.tree.LambdaExpressionTree;
import com.sun.source.tree.LiteralTree;
import com.sun.source.tree.MemberReferenceTree;
import com.sun.source.tree.MethodInvocationTree;
import com.sun.source.tree.MethodTree;
import com.sun.source.tree.NewArrayTree;
import com.sun.source.tree.NewClassTree;
import com.sun.source.tree.ParenthesizedTree;
import com.sun.source.tree.SynchronizedTree;
import com.sun.source.tree.ThrowTree;
import com.sun.source.tree.Tree;
import com.sun.source.tree.TryTree;
import com.sun.source.tree.TypeCastTree;
import com.sun.source.tree.UnaryTree;
import com.sun.source.tree.VariableTree;
import com.sun.source.tree.WhileLoopTree;
import com.sun.source.util.JavacTask;
import com.sun.source.util.TreePath;
import com.sun.source.util.TreePathScanner;
import com.sun.source.util.Trees;
import java.io.IOException;
import java.net.URI;
import java.util.ArrayList;
import java.util.HashMap;
import java.util.HashSet;
import java.util.LinkedHashMap;
import java.util.LinkedHashSet;
import java.util.List;
import java.util.Map;
import java.util.Set;
import javax.lang.model.element.Element;
import javax.lang.model.element.ElementKind;
import javax.lang.model.element.ExecutableElement;
import javax.lang.model.element.Modifier;
import javax.lang.model.element.VariableElement;
import javax.lang.model.type.ArrayType;
import javax.lang.model.type.TypeKind;
import javax.lang.model.type.TypeMirror;
import javax.tools.JavaFileObject;
import javax.tools.SimpleJavaFileObject;
import javax.tools.ToolProvider;

/**
 * Looks at a source as the compiler reads it and tells which rules of LANGUAGE.md it breaks. It is
 * stricter than the rules where the program needs less than they leave: no list, no while, no
 * object made outside a constructor.
 */
final class Language extends TreePathScanner<Void, Void> {
    private static final Set<String> LIBRARY = Set.of(
        "String.length", "String.charAt", "String.isEmpty", "String.equals", "String.indexOf", "String.substring",
        "String.toCharArray", "Integer.compare", "Integer.max", "Integer.min", "Integer.bitCount", "Long.compare",
        "Long.max", "Long.min", "Long.bitCount", "Math.max", "Math.min", "Math.abs", "Math.floorDiv", "Math.floorMod",
        "System.arraycopy", "Arrays.fill", "Arrays.copyOf", "Arrays.copyOfRange", "Object.<init>");
    private static final Set<TypeKind> NUMBERS = Set.of(TypeKind.INT, TypeKind.LONG, TypeKind.SHORT, TypeKind.BYTE,
        TypeKind.CHAR);
    private static final int MOST_PARAMETERS = 7, MOST_LINES = 60, MOST_CLASSES = 12, MOST_FIELDS = 20, MOST_DEEP = 8;

    /** Of a source's outer class: each public method as "type name(type name, ..)". */
    final Set<String> publicMethods = new LinkedHashSet<>();
    /** Of a source's outer class: each public constant as "type NAME = value". */
    final Set<String> publicConstants = new LinkedHashSet<>();
    /** The longest row of calls, recursion aside. */
    int deepest;
    private final List<String> faults = new ArrayList<>();
    private final Set<String> publicNames = new HashSet<>(), otherNames = new LinkedHashSet<>();
    private final Map<ExecutableElement, Set<ExecutableElement>> calls = new LinkedHashMap<>();
    private final CompilationUnitTree unit;
    private final Trees trees;
    private int classes;

    Language(String source) throws IOException {
        JavaFileObject file = new SimpleJavaFileObject(URI.create("string:///BridgePairs.java"), JavaFileObject.Kind.SOURCE) {
            @Override public CharSequence getCharContent(boolean ignore) { return source; }
        };
        var quiet = new javax.tools.DiagnosticCollector<JavaFileObject>();
        JavacTask task = (JavacTask) ToolProvider.getSystemJavaCompiler()
            .getTask(null, null, quiet, List.of("-proc:none"), null, List.of(file));
        unit = task.parse().iterator().next();
        task.analyze();
        trees = Trees.instance(task);
        for (var d : quiet.getDiagnostics()) {
            if (d.getKind() == javax.tools.Diagnostic.Kind.ERROR) faults.add("0 " + d);
        }
    }

    /** Each fault as the rule's number and what is wrong. */
    List<String> faults() {
        if (!faults.isEmpty()) return faults;
        if (unit.getPackage() != null) fault(1, "a package line");
        for (var i : unit.getImports()) {
            String name = i.getQualifiedIdentifier().toString();
            if (!Set.of("java.util.Arrays", "java.util.ArrayList", "java.util.List").contains(name)) fault(4, "import " + name);
        }
        if (unit.getTypeDecls().size() != 1) fault(1, "one class stands outside");
        scan(unit, null);
        if (classes > MOST_CLASSES) fault(11, classes + " classes");
        for (String name : otherNames) if (publicNames.contains(name)) fault(1, "a public name used again: " + name);
        rowsOfCalls();
        return faults;
    }

    private void fault(int rule, String what) { faults.add(rule + " " + what); }

    // ---- classes, fields, methods

    @Override public Void visitClass(ClassTree c, Void v) {
        classes++;
        boolean outer = getCurrentPath().getParentPath().getLeaf() == unit;
        Set<Modifier> is = c.getModifiers().getFlags();
        if (outer) {
            if (!is.contains(Modifier.PUBLIC) || !is.contains(Modifier.FINAL)) fault(1, "the class is public and final");
        } else {
            if (!(getCurrentPath().getParentPath().getLeaf() instanceof ClassTree)) fault(2, "a local or anonymous class");
            boolean isStatic = is.contains(Modifier.STATIC) || c.getKind() != Tree.Kind.CLASS;
            if (!isStatic) fault(2, "an inner class that isn't static: " + c.getSimpleName());
            if (is.contains(Modifier.PUBLIC) || is.contains(Modifier.PROTECTED)) fault(1, "a public class inside");
        }
        int fields = 0;
        for (Tree member : c.getMembers()) {
            if (member instanceof BlockTree) fault(5, "an initialiser block");
            if (member instanceof VariableTree field) {
                if (!field.getModifiers().getFlags().contains(Modifier.STATIC)) fields++;
                field(field, outer);
            }
        }
        if (fields > MOST_FIELDS) fault(11, fields + " fields in " + c.getSimpleName());
        return super.visitClass(c, v);
    }

    private void field(VariableTree field, boolean outer) {
        Set<Modifier> is = field.getModifiers().getFlags();
        if (outer && is.contains(Modifier.PUBLIC)) {
            publicConstants.add(field.getType() + " " + field.getName() + " = " + field.getInitializer());
        } else if (outer && !is.contains(Modifier.PRIVATE)) {
            fault(1, "neither public nor private: " + field.getName());
        }
        if (!is.contains(Modifier.STATIC)) return;
        if (!is.contains(Modifier.FINAL)) fault(5, "static, not final: " + field.getName());
        String type = field.getType().toString();
        boolean isRow = Set.of("int[]", "long[]", "char[]", "byte[]").contains(type)
            && field.getInitializer() instanceof NewArrayTree row && row.getInitializers() != null;
        boolean isConstant = Set.of("int", "long", "boolean", "char", "String").contains(type) && field.getInitializer() != null;
        if (!isRow && !isConstant) fault(5, "static " + type + " " + field.getName());
    }

    @Override public Void visitVariable(VariableTree variable, Void v) {
        type(trees.getTypeMirror(getCurrentPath()), variable.getName().toString());
        return super.visitVariable(variable, v);
    }

    private void type(TypeMirror type, String of) {
        if (type instanceof ArrayType row) {
            TypeMirror item = row.getComponentType();
            if (item instanceof ArrayType inner && !NUMBERS.contains(inner.getComponentType().getKind())) fault(3, "rows of rows: " + of);
            if (item instanceof ArrayType) return;
            type(item, of);
        } else if (type.getKind() == TypeKind.DECLARED && !isOwn(type) && !isString(type)) {
            fault(3, type + " " + of);
        }
    }

    private boolean isString(TypeMirror type) { return type.toString().equals("java.lang.String"); }

    private boolean isOwn(TypeMirror type) { return type.toString().startsWith("BridgePairs"); }

    @Override public Void visitMethod(MethodTree m, Void v) {
        boolean outer = getCurrentPath().getParentPath().getParentPath().getLeaf() == unit;
        String name = m.getName().toString();
        Set<Modifier> is = m.getModifiers().getFlags();
        if (is.contains(Modifier.PROTECTED)) fault(1, "protected: " + name);
        if (outer && is.contains(Modifier.PUBLIC) && m.getReturnType() != null) {
            StringBuilder parameters = new StringBuilder();
            for (VariableTree p : m.getParameters()) {
                parameters.append(parameters.length() > 0 ? ", " : "").append(p.getType()).append(' ').append(p.getName());
            }
            publicMethods.add(m.getReturnType() + " " + name + "(" + parameters + ")");
            publicNames.add(name);
        } else if (m.getReturnType() != null) {
            if (outer && !is.contains(Modifier.PRIVATE)) fault(1, "neither public nor private: " + name);
            otherNames.add(name);
        }
        if (Set.of("equals", "hashCode", "toString").contains(name)) fault(6, name + " of an own object");
        if (m.getParameters().size() > MOST_PARAMETERS) fault(11, "parameters of " + name);
        if (!m.getThrows().isEmpty()) fault(6, "throws at " + name);
        if (lines(m) > MOST_LINES) fault(11, lines(m) + " lines in " + name);
        calls.computeIfAbsent((ExecutableElement) trees.getElement(getCurrentPath()), e -> new LinkedHashSet<>());
        return super.visitMethod(m, v);
    }

    private long lines(Tree t) {
        var places = trees.getSourcePositions();
        long end = places.getEndPosition(unit, t);
        // A constructor that the compiler adds has no end of its own.
        if (end < 0) return 0;
        return unit.getLineMap().getLineNumber(end) - unit.getLineMap().getLineNumber(places.getStartPosition(unit, t)) + 1;
    }

    // ---- what is made, called, cast, divided, compared

    @Override public Void visitNewClass(NewClassTree made, Void v) {
        if (made.getClassBody() != null) fault(2, "an anonymous class");
        if (!isOwn(trees.getTypeMirror(getCurrentPath()))) fault(4, "new " + made.getIdentifier());
        if (isInCall()) fault(12, "a call makes " + made.getIdentifier());
        called(trees.getElement(getCurrentPath()), "new " + made.getIdentifier());
        return super.visitNewClass(made, v);
    }

    @Override public Void visitNewArray(NewArrayTree made, Void v) {
        if (isInCall()) fault(12, "a call makes a row");
        return super.visitNewArray(made, v);
    }

    /** Whether a method stands around, other than a constructor. */
    private boolean isInCall() {
        MethodTree m = around();
        return m != null && m.getReturnType() != null;
    }

    private MethodTree around() {
        for (TreePath p = getCurrentPath(); p != null; p = p.getParentPath()) {
            if (p.getLeaf() instanceof MethodTree m) return m;
        }
        return null;
    }

    @Override public Void visitMethodInvocation(MethodInvocationTree call, Void v) {
        called(trees.getElement(getCurrentPath()), call.toString());
        return super.visitMethodInvocation(call, v);
    }

    private void called(Element target, String text) {
        if (!(target instanceof ExecutableElement e)) {
            fault(4, text);
            return;
        }
        if (isOwn(e.getEnclosingElement().asType())) {
            for (TreePath p = getCurrentPath(); p != null; p = p.getParentPath()) {
                if (!(p.getLeaf() instanceof MethodTree)) continue;
                calls.computeIfAbsent((ExecutableElement) trees.getElement(p), k -> new LinkedHashSet<>()).add(e);
                break;
            }
        } else if (!LIBRARY.contains(e.getEnclosingElement().getSimpleName() + "." + e.getSimpleName())) {
            fault(4, text);
        }
    }

    @Override public Void visitTypeCast(TypeCastTree cast, Void v) {
        if (!trees.getTypeMirror(new TreePath(getCurrentPath(), cast.getType())).getKind().isPrimitive()) fault(6, "" + cast);
        return super.visitTypeCast(cast, v);
    }

    @Override public Void visitBinary(BinaryTree b, Void v) {
        TypeMirror left = typeOf(b.getLeftOperand()), right = typeOf(b.getRightOperand());
        switch (b.getKind()) {
            case PLUS -> { if (isString(left) || isString(right)) fault(10, "" + b); }
            case EQUAL_TO, NOT_EQUAL_TO -> { if (isText(left) || isText(right)) fault(6, "" + b); }
            case DIVIDE, REMAINDER -> divisor(b.getRightOperand(), "" + b);
            default -> { }
        }
        return super.visitBinary(b, v);
    }

    private boolean isText(TypeMirror type) { return isString(type) || type.toString().equals("java.lang.Integer"); }

    private TypeMirror typeOf(ExpressionTree e) { return trees.getTypeMirror(new TreePath(getCurrentPath(), e)); }

    /** A divisor is a constant other than 0, or a local one that counts on from a constant above 0. */
    private void divisor(ExpressionTree by, String text) {
        if (by instanceof ParenthesizedTree p) {
            divisor(p.getExpression(), text);
            return;
        }
        Object n = by instanceof LiteralTree literal ? literal.getValue() : null;
        Element e = trees.getElement(new TreePath(getCurrentPath(), by));
        if (e instanceof VariableElement constant && constant.getConstantValue() != null) n = constant.getConstantValue();
        if (n instanceof Number number && number.longValue() != 0) return;
        if (e != null && e.getKind() == ElementKind.LOCAL_VARIABLE
            && trees.getTree(e) instanceof VariableTree local && local.getInitializer() instanceof LiteralTree from
            && from.getValue() instanceof Integer first && first > 0) return;
        fault(7, "a divisor that is not looked at: " + text);
    }

    @Override public Void visitLiteral(LiteralTree literal, Void v) {
        if (literal.getValue() instanceof String s && s.chars().anyMatch(c -> c < 1 || c > 127)) fault(4, "a sign of " + literal);
        if (literal.getValue() instanceof Double || literal.getValue() instanceof Float) fault(3, "" + literal);
        return super.visitLiteral(literal, v);
    }

    // ---- what is written, loops, what is not of the language

    @Override public Void visitAssignment(AssignmentTree a, Void v) {
        written(a.getVariable());
        return super.visitAssignment(a, v);
    }

    @Override public Void visitCompoundAssignment(CompoundAssignmentTree a, Void v) {
        written(a.getVariable());
        if (a.getKind() == Tree.Kind.PLUS_ASSIGNMENT && isString(typeOf(a.getVariable()))) fault(10, "" + a);
        if (a.getKind() == Tree.Kind.DIVIDE_ASSIGNMENT || a.getKind() == Tree.Kind.REMAINDER_ASSIGNMENT) divisor(a.getExpression(), "" + a);
        return super.visitCompoundAssignment(a, v);
    }

    @Override public Void visitUnary(UnaryTree u, Void v) {
        switch (u.getKind()) {
            case PREFIX_INCREMENT, PREFIX_DECREMENT, POSTFIX_INCREMENT, POSTFIX_DECREMENT -> written(u.getExpression());
            default -> { }
        }
        return super.visitUnary(u, v);
    }

    private void written(ExpressionTree to) {
        if (!(to instanceof ArrayAccessTree place)) return;
        Element e = trees.getElement(new TreePath(getCurrentPath(), place.getExpression()));
        if (e != null && e.getModifiers().contains(Modifier.STATIC)) fault(5, "a static row is changed: " + to);
    }

    @Override public Void visitForLoop(ForLoopTree loop, Void v) {
        if (loop.getCondition() == null) fault(9, "a loop without an end");
        return super.visitForLoop(loop, v);
    }

    @Override public Void visitEnhancedForLoop(EnhancedForLoopTree loop, Void v) {
        if (typeOf(loop.getExpression()).getKind() != TypeKind.ARRAY) fault(12, "an iterator is made");
        return super.visitEnhancedForLoop(loop, v);
    }

    @Override public Void visitWhileLoop(WhileLoopTree t, Void v) { fault(9, "while"); return super.visitWhileLoop(t, v); }
    @Override public Void visitDoWhileLoop(DoWhileLoopTree t, Void v) { fault(9, "do"); return super.visitDoWhileLoop(t, v); }
    @Override public Void visitThrow(ThrowTree t, Void v) { fault(6, "throw"); return super.visitThrow(t, v); }
    @Override public Void visitTry(TryTree t, Void v) { fault(6, "try"); return super.visitTry(t, v); }
    @Override public Void visitAssert(AssertTree t, Void v) { fault(6, "assert"); return super.visitAssert(t, v); }
    @Override public Void visitSynchronized(SynchronizedTree t, Void v) { fault(6, "synchronized"); return super.visitSynchronized(t, v); }
    @Override public Void visitLambdaExpression(LambdaExpressionTree t, Void v) { fault(2, "a lambda"); return super.visitLambdaExpression(t, v); }
    @Override public Void visitMemberReference(MemberReferenceTree t, Void v) { fault(2, "a method reference"); return super.visitMemberReference(t, v); }

    // ---- recursion, and how deep calls go

    private void rowsOfCalls() {
        Map<ExecutableElement, Set<ExecutableElement>> reached = new HashMap<>();
        for (ExecutableElement m : calls.keySet()) reached.put(m, reachedFrom(m));
        for (ExecutableElement m : calls.keySet()) {
            boolean isRecursive = reached.get(m).contains(m);
            boolean isPrivate = m.getModifiers().contains(Modifier.PRIVATE);
            boolean hasDepth = m.getParameters().stream().anyMatch(p -> p.getSimpleName().contentEquals("depth"));
            if (isRecursive && !(isPrivate && hasDepth)) fault(8, "recursion without a depth: " + m);
        }
        Map<ExecutableElement, Integer> known = new HashMap<>();
        for (ExecutableElement m : calls.keySet()) deepest = Math.max(deepest, depth(m, reached, known));
        if (deepest > MOST_DEEP) fault(11, "calls go " + deepest + " deep");
    }

    private Set<ExecutableElement> reachedFrom(ExecutableElement from) {
        Set<ExecutableElement> met = new LinkedHashSet<>();
        List<ExecutableElement> open = new ArrayList<>(calls.getOrDefault(from, Set.of()));
        while (!open.isEmpty()) {
            ExecutableElement m = open.remove(open.size() - 1);
            if (met.add(m)) open.addAll(calls.getOrDefault(m, Set.of()));
        }
        return met;
    }

    /** How many methods stand in the longest row from one on; methods that call one another count once. */
    private int depth(ExecutableElement from, Map<ExecutableElement, Set<ExecutableElement>> reached, Map<ExecutableElement, Integer> known) {
        Integer is = known.get(from);
        if (is != null) return is;
        Set<ExecutableElement> group = new LinkedHashSet<>(Set.of(from));
        for (ExecutableElement m : reached.get(from)) if (reached.getOrDefault(m, Set.of()).contains(from)) group.add(m);
        int below = 0;
        for (ExecutableElement member : group) {
            for (ExecutableElement next : calls.getOrDefault(member, Set.of())) {
                if (!group.contains(next) && reached.containsKey(next)) below = Math.max(below, depth(next, reached, known));
            }
        }
        known.put(from, below + 1);
        return below + 1;
    }
}
