import com.sun.source.tree.ArrayAccessTree;
import com.sun.source.tree.AssertTree;
import com.sun.source.tree.BinaryTree;
import com.sun.source.tree.BlockTree;
import com.sun.source.tree.ClassTree;
import com.sun.source.tree.CompilationUnitTree;
import com.sun.source.tree.CompoundAssignmentTree;
import com.sun.source.tree.DoWhileLoopTree;
import com.sun.source.tree.EnhancedForLoopTree;
import com.sun.source.tree.ExpressionTree;
import com.sun.source.tree.ForLoopTree;
import com.sun.source.tree.LambdaExpressionTree;
import com.sun.source.tree.LiteralTree;
import com.sun.source.tree.MemberReferenceTree;
import com.sun.source.tree.MethodInvocationTree;
import com.sun.source.tree.MethodTree;
import com.sun.source.tree.NewArrayTree;
import com.sun.source.tree.NewClassTree;
import com.sun.source.tree.SynchronizedTree;
import com.sun.source.tree.ThrowTree;
import com.sun.source.tree.Tree;
import com.sun.source.tree.TryTree;
import com.sun.source.tree.TypeCastTree;
import com.sun.source.tree.VariableTree;
import com.sun.source.tree.WhileLoopTree;
import com.sun.source.util.JavacTask;
import com.sun.source.util.TreePathScanner;
import com.sun.source.util.Trees;
import java.io.File;
import java.io.IOException;
import java.util.ArrayList;
import java.util.List;
import java.util.Map;
import java.util.Set;
import java.util.TreeMap;
import java.util.TreeSet;
import javax.lang.model.element.Element;
import javax.lang.model.element.ExecutableElement;
import javax.lang.model.element.Modifier;
import javax.lang.model.element.TypeElement;
import javax.lang.model.type.TypeMirror;
import javax.tools.JavaCompiler;
import javax.tools.StandardJavaFileManager;
import javax.tools.ToolProvider;

/**
 * LANGUAGE.md's rules, looked up in the compiler's own tree of the program: types, calls of the library, what throws,
 * indexes and divisors, loops, recursion and how deep calls go.
 */
public final class RulesTest extends TreePathScanner<Void, Void> {
    private static final Set<String> LIBRARY = Set.of("String.length", "String.charAt", "String.isEmpty",
        "String.equals", "String.indexOf", "String.substring", "String.toCharArray", "Math.max", "Math.min", "Math.abs",
        "Math.floorMod", "Math.floorDiv", "Integer.bitCount", "Integer.compare", "Long.compare", "System.arraycopy",
        "Arrays.copyOf", "Arrays.copyOfRange", "Arrays.fill");
    private static final Set<String> NUMBERS = Set.of("int", "long", "short", "byte", "char", "boolean", "double",
        "float");
    private static final String FILE = "src/main/java/FlotsamQuorum.java";
    private static final int DEEPEST = 8;

    private final Trees trees;
    private final Set<String> own = new TreeSet<>();
    private final Map<String, Set<String>> calls = new TreeMap<>();
    private final Map<String, MethodTree> methods = new TreeMap<>();
    private final Set<String> open = new TreeSet<>();
    private final List<String> faults = new ArrayList<>();
    private String method = "";
    private int loops = 0;

    private RulesTest(Trees trees) {
        this.trees = trees;
    }

    public static void main(String[] args) throws IOException {
        JavaCompiler compiler = ToolProvider.getSystemJavaCompiler();
        StandardJavaFileManager files = compiler.getStandardFileManager(null, null, null);
        JavacTask task = (JavacTask) compiler.getTask(null, files, null, List.of("-proc:none"), null,
            files.getJavaFileObjects(new File(FILE)));
        List<CompilationUnitTree> units = new ArrayList<>();
        task.parse().forEach(units::add);
        task.analyze();
        RulesTest test = new RulesTest(Trees.instance(task));
        for (CompilationUnitTree unit : units) {
            test.must(1, unit.getImports().isEmpty() && unit.getTypeDecls().size() == 1, "one class, nothing imported");
            test.own(unit.getTypeDecls().get(0));
            test.scan(unit, null);
        }
        test.depths();
        test.faults.forEach(System.out::println);
        System.out.println("RulesTest: " + test.methods.size() + " methods, " + test.faults.size() + " faults");
        if (!test.faults.isEmpty() || test.methods.size() < 33) {
            System.exit(1);
        }
    }

    private void must(int rule, boolean is, String what) {
        if (!is) {
            faults.add("rule " + rule + ", " + method + ": " + what);
        }
    }

    private void own(Tree tree) {
        ClassTree type = (ClassTree) tree;
        own.add(type.getSimpleName().toString());
        for (Tree member : type.getMembers()) {
            if (member instanceof ClassTree) {
                own(member);
            }
        }
    }

    private static String simple(String type) {
        return type.substring(type.lastIndexOf('.') + 1);
    }

    private TypeMirror typeOf(Tree tree) {
        return trees.getTypeMirror(trees.getPath(getCurrentPath().getCompilationUnit(), tree));
    }

    private Element elementOf(Tree tree) {
        return trees.getElement(trees.getPath(getCurrentPath().getCompilationUnit(), tree));
    }

    // ---- 2, 5: classes and static fields

    @Override
    public Void visitClass(ClassTree type, Void none) {
        Tree parent = getCurrentPath().getParentPath().getLeaf();
        boolean isOuter = parent instanceof CompilationUnitTree;
        method = type.getSimpleName().toString();
        must(2, isOuter || parent instanceof ClassTree, "no local class");
        must(2, isOuter || type.getModifiers().getFlags().contains(Modifier.STATIC), "classes inside are static");
        for (Tree member : type.getMembers()) {
            must(5, !(member instanceof BlockTree), "no initialiser block");
        }
        return super.visitClass(type, none);
    }

    @Override
    public Void visitVariable(VariableTree variable, Void none) {
        String type = simple(typeOf(variable).toString());
        String one = type.replace("[]", "");
        int brackets = (type.length() - one.length()) / 2;
        boolean isNumber = NUMBERS.contains(one);
        must(3, isNumber && brackets <= 2 || own.contains(one) && brackets <= 1
            || Set.of("String", "StringBuilder").contains(one) && brackets == 0, "type of " + variable);
        if (variable.getModifiers().getFlags().contains(Modifier.STATIC)) {
            must(5, variable.getModifiers().getFlags().contains(Modifier.FINAL), "static is final: " + variable);
            ExpressionTree made = variable.getInitializer();
            boolean isWritten = made instanceof NewArrayTree && ((NewArrayTree) made).getInitializers() != null;
            boolean isRow = isWritten && isNumber && brackets == 1;
            boolean isOne = brackets == 0 && !(made instanceof NewClassTree) && !(made instanceof MethodInvocationTree);
            must(5, isRow || isOne, "a static constant: " + variable);
        }
        return super.visitVariable(variable, none);
    }

    // ---- 6, 2: what may not stand

    @Override
    public Void visitThrow(ThrowTree tree, Void none) {
        must(6, false, "no throw");
        return super.visitThrow(tree, none);
    }

    @Override
    public Void visitTry(TryTree tree, Void none) {
        must(6, false, "no try");
        return super.visitTry(tree, none);
    }

    @Override
    public Void visitSynchronized(SynchronizedTree tree, Void none) {
        must(6, false, "no synchronized");
        return super.visitSynchronized(tree, none);
    }

    @Override
    public Void visitAssert(AssertTree tree, Void none) {
        must(6, false, "no assert");
        return super.visitAssert(tree, none);
    }

    @Override
    public Void visitLambdaExpression(LambdaExpressionTree tree, Void none) {
        must(2, false, "no lambda");
        return super.visitLambdaExpression(tree, none);
    }

    @Override
    public Void visitMemberReference(MemberReferenceTree tree, Void none) {
        must(2, false, "no method reference");
        return super.visitMemberReference(tree, none);
    }

    @Override
    public Void visitTypeCast(TypeCastTree cast, Void none) {
        must(6, typeOf(cast.getExpression()).getKind().isPrimitive(), "a cast of numbers alone: " + cast);
        return super.visitTypeCast(cast, none);
    }

    // ---- 7: indexes and divisors; 6, 10: texts

    private boolean isTested(String text) {
        MethodTree tree = methods.get(method);
        return tree != null && tree.getBody() != null && tree.getBody().toString().contains(text);
    }

    @Override
    public Void visitArrayAccess(ArrayAccessTree access, Void none) {
        String row = access.getExpression().toString();
        String index = access.getIndex().toString();
        must(7, isTested(index + " < " + row + ".length"), "an index is looked at: " + access);
        return super.visitArrayAccess(access, none);
    }

    private void divisor(Tree.Kind kind, ExpressionTree by) {
        boolean isDivision = Set.of(Tree.Kind.DIVIDE, Tree.Kind.REMAINDER, Tree.Kind.DIVIDE_ASSIGNMENT,
            Tree.Kind.REMAINDER_ASSIGNMENT).contains(kind);
        if (!isDivision) {
            return;
        }
        Element named = elementOf(by);
        Object constant = by instanceof LiteralTree ? ((LiteralTree) by).getValue()
            : named instanceof javax.lang.model.element.VariableElement
                ? ((javax.lang.model.element.VariableElement) named).getConstantValue() : null;
        boolean isConstant = constant instanceof Integer && (Integer) constant != 0;
        must(7, isConstant || isTested(by + " != 0") || isTested(by + " == 0"), "a divisor is looked at: " + by);
    }

    @Override
    public Void visitBinary(BinaryTree binary, Void none) {
        boolean isOfText = false;
        for (ExpressionTree side : List.of(binary.getLeftOperand(), binary.getRightOperand())) {
            isOfText |= simple(String.valueOf(typeOf(side))).equals("String");
        }
        must(6, !isOfText, "texts are neither compared by signs nor joined by +: " + binary);
        divisor(binary.getKind(), binary.getRightOperand());
        return super.visitBinary(binary, none);
    }

    @Override
    public Void visitCompoundAssignment(CompoundAssignmentTree tree, Void none) {
        divisor(tree.getKind(), tree.getExpression());
        return super.visitCompoundAssignment(tree, none);
    }

    // ---- 9: loops; 12: objects

    private void loop(ExpressionTree condition, Runnable inside) {
        String text = String.valueOf(condition);
        must(9, condition != null && !text.equals("(true)") && !text.equals("true"), "a loop's end: " + text);
        must(9, text.contains("<") || text.contains(">"), "a loop's counter against a bound: " + text);
        loops++;
        inside.run();
        loops--;
    }

    @Override
    public Void visitForLoop(ForLoopTree tree, Void none) {
        loop(tree.getCondition(), () -> super.visitForLoop(tree, none));
        return none;
    }

    @Override
    public Void visitWhileLoop(WhileLoopTree tree, Void none) {
        loop(tree.getCondition(), () -> super.visitWhileLoop(tree, none));
        return none;
    }

    @Override
    public Void visitDoWhileLoop(DoWhileLoopTree tree, Void none) {
        loop(tree.getCondition(), () -> super.visitDoWhileLoop(tree, none));
        return none;
    }

    @Override
    public Void visitEnhancedForLoop(EnhancedForLoopTree tree, Void none) {
        loops++;
        super.visitEnhancedForLoop(tree, none);
        loops--;
        return none;
    }

    @Override
    public Void visitNewClass(NewClassTree made, Void none) {
        must(2, made.getClassBody() == null, "no anonymous class");
        must(4, own.contains(simple(typeOf(made).toString())), "an object of its own: " + made);
        must(12, loops == 0, "no object is made in a loop: " + made);
        return super.visitNewClass(made, none);
    }

    @Override
    public Void visitNewArray(NewArrayTree made, Void none) {
        must(12, loops == 0, "no row is made in a loop: " + made);
        return super.visitNewArray(made, none);
    }

    // ---- 4, 8, 11: calls

    private static String named(Element element) {
        return element.getEnclosingElement().getSimpleName() + "." + element.getSimpleName();
    }

    @Override
    public Void visitMethod(MethodTree tree, Void none) {
        String outer = method;
        ExecutableElement element = (ExecutableElement) trees.getElement(getCurrentPath());
        method = named(element);
        must(8, !methods.containsKey(method), "one method of a name, so that calls can be followed");
        methods.put(method, tree);
        calls.put(method, new TreeSet<>());
        must(6, element.getThrownTypes().isEmpty(), "throws nothing");
        must(11, tree.getParameters().size() <= 7, "at most seven parameters");
        super.visitMethod(tree, none);
        method = outer;
        return none;
    }

    @Override
    public Void visitMethodInvocation(MethodInvocationTree call, Void none) {
        Element called = elementOf(call.getMethodSelect());
        String name = named(called);
        if (own.contains(((TypeElement) called.getEnclosingElement()).getSimpleName().toString())) {
            calls.computeIfAbsent(method, m -> new TreeSet<>()).add(name);
            must(12, !method.endsWith("<init>"), "a constructor calls nothing of its own: " + call);
        } else {
            boolean isSuper = call.toString().equals("super()");
            must(4, isSuper || LIBRARY.contains(name), "of the library: " + name);
        }
        return super.visitMethodInvocation(call, none);
    }

    private boolean leadsTo(String from, String to, Set<String> seen) {
        for (String next : calls.getOrDefault(from, Set.of())) {
            if (next.equals(to) || seen.add(next) && leadsTo(next, to, seen)) {
                return true;
            }
        }
        return false;
    }

    private int depth(String from) {
        int deepest = 0;
        if (open.add(from)) {
            for (String next : calls.getOrDefault(from, Set.of())) {
                deepest = Math.max(deepest, depth(next));
            }
            open.remove(from);
            return deepest + 1;
        }
        return 0;
    }

    private void depths() {
        for (String name : methods.keySet()) {
            method = name;
            MethodTree tree = methods.get(name);
            if (leadsTo(name, name, new TreeSet<>())) {
                must(8, tree.getModifiers().getFlags().contains(Modifier.PRIVATE), "recursion is private");
                String last = String.valueOf(tree.getParameters().isEmpty() ? ""
                    : tree.getParameters().get(tree.getParameters().size() - 1).getName());
                must(8, last.equals("depth") || last.equals("open"), "recursion carries its depth");
            }
            must(11, depth(name) <= DEEPEST, "calls go " + depth(name) + " deep");
        }
    }
}
