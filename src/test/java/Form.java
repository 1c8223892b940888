import com.sun.source.tree.ArrayAccessTree;
import com.sun.source.tree.AssertTree;
import com.sun.source.tree.BinaryTree;
import com.sun.source.tree.BlockTree;
import com.sun.source.tree.ClassTree;
import com.sun.source.tree.CompilationUnitTree;
import com.sun.source.tree.CompoundAssignmentTree;
import com.sun.source.tree.DoWhileLoopTree;
import com.sun.source.tree.ExpressionTree;
import com.sun.source.tree.ForLoopTree;
import com.sun.source.tree.IdentifierTree;
import com.sun.source.tree.ImportTree;
import com.sun.source.tree.LambdaExpressionTree;
import com.sun.source.tree.LiteralTree;
import com.sun.source.tree.MemberReferenceTree;
import com.sun.source.tree.MethodInvocationTree;
import com.sun.source.tree.MethodTree;
import com.sun.source.tree.NewArrayTree;
import com.sun.source.tree.NewClassTree;
import com.sun.source.tree.ParenthesizedTree;
import com.sun.source.tree.SynchronizedTree;
import com.sun.source.tree.ThrowTree;
import com.sun.source.tree.Tree;
import com.sun.source.tree.TryTree;
import com.sun.source.tree.TypeCastTree;
import com.sun.source.tree.VariableTree;
import com.sun.source.tree.WhileLoopTree;
import com.sun.source.util.JavacTask;
import com.sun.source.util.TreePath;
import com.sun.source.util.TreePathScanner;
import com.sun.source.util.Trees;
import java.nio.file.Files;
import java.nio.file.Path;
import java.util.ArrayList;
import java.util.HashSet;
import java.util.List;
import java.util.Map;
import java.util.Set;
import java.util.TreeMap;
import java.util.TreeSet;
import javax.lang.model.element.Element;
import javax.lang.model.element.ElementKind;
import javax.lang.model.element.Modifier;
import javax.lang.model.element.VariableElement;
import javax.lang.model.type.TypeKind;
import javax.lang.model.type.TypeMirror;
import javax.tools.JavaCompiler;
import javax.tools.StandardJavaFileManager;
import javax.tools.ToolProvider;

/** What a Java file is made of, as far as LANGUAGE.md has a rule on it. */
final class Form extends TreePathScanner<Void, Void> {
    /** What the class may use of the library; what LANGUAGE.md allows beyond this it has no use for. */
    private static final Set<String> LIBRARY = Set.of("java.lang.Object.<init>", "java.lang.Math.max",
        "java.lang.Math.min", "java.lang.Integer.bitCount", "java.lang.System.arraycopy", "java.util.Arrays.fill");
    private static final Set<String> IMPORTS = Set.of("java.util.Arrays");
    /** These look at what they are given, and answer whether it may be used as an index. */
    private static final Set<String> LOOKS = Set.of("has", "isRegister");
    /** These answer a register, 0 to 3, by a mask. */
    private static final Set<String> REGISTERS = Set.of("Program.targetOf", "Program.firstOf", "Program.secondOf");

    final List<String> classesNotStatic = new ArrayList<>();
    final List<String> forbidden = new ArrayList<>();
    final List<String> typesNotListed = new ArrayList<>();
    final List<String> callsNotListed = new ArrayList<>();
    final List<String> importsNotListed = new ArrayList<>();
    final List<String> staticFieldsNotConstant = new ArrayList<>();
    final List<String> casts = new ArrayList<>();
    final List<String> indexesNotLookedAt = new ArrayList<>();
    final List<String> divisors = new ArrayList<>();
    final List<String> loopsWithoutBound = new ArrayList<>();
    final List<String> madeByCalls = new ArrayList<>();
    final List<String> oddSigns = new ArrayList<>();
    final Map<String, Integer> fields = new TreeMap<>();
    final Map<String, Integer> lines = new TreeMap<>();
    final Map<String, Integer> parameters = new TreeMap<>();
    int classes;

    private final Map<String, Set<String>> calls = new TreeMap<>();
    private final Set<String> lookedAt = new HashSet<>();
    private final Trees trees;
    private final CompilationUnitTree unit;
    private final String file;

    private Form(Trees trees, CompilationUnitTree unit, String file) {
        this.trees = trees;
        this.unit = unit;
        this.file = file;
    }

    static Form of(Path path) throws Exception {
        JavaCompiler compiler = ToolProvider.getSystemJavaCompiler();
        try (StandardJavaFileManager files = compiler.getStandardFileManager(null, null, null)) {
            JavacTask task = (JavacTask) compiler.getTask(null, files, null, List.of("-proc:none"), null,
                files.getJavaFileObjects(path));
            CompilationUnitTree unit = task.parse().iterator().next();
            task.analyze();
            Form form = new Form(Trees.instance(task), unit, Files.readString(path));
            form.scan(unit, null);
            form.signs();
            return form;
        }
    }

    private void signs() {
        file.chars().filter(sign -> sign > 126).forEach(sign -> oddSigns.add("sign " + sign));
    }

    private String at(Tree tree) {
        long line = unit.getLineMap().getLineNumber(trees.getSourcePositions().getStartPosition(unit, tree));
        return "line " + line + ": " + tree.toString().split("\n")[0];
    }

    private Element elementOf(Tree tree) {
        return trees.getElement(new TreePath(getCurrentPath(), tree));
    }

    private static boolean isOwn(Element element) {
        return nameOf(element).startsWith("FlushedPipes");
    }

    private static String nameOf(Element element) {
        Element outside = element.getEnclosingElement();
        boolean top = outside == null || outside.getKind() == ElementKind.PACKAGE;
        return top ? element.toString() : nameOf(outside) + "." + element.getSimpleName();
    }

    private static String shortName(Element element) {
        return element.getEnclosingElement().getSimpleName() + "." + element.getSimpleName();
    }

    /** The method in which something stands; what a class makes of its own fields is its constructor's. */
    private String place() {
        String inside = "";
        for (TreePath path = getCurrentPath(); path != null; path = path.getParentPath()) {
            if (path.getLeaf() instanceof MethodTree method && inside.isEmpty()) {
                inside = method.getName().toString();
            }
            if (path.getLeaf() instanceof ClassTree type) {
                return type.getSimpleName() + "." + (inside.isEmpty() ? "<init>" : inside);
            }
        }
        return inside;
    }

    @Override
    public Void visitImport(ImportTree tree, Void nothing) {
        if (!IMPORTS.contains(tree.getQualifiedIdentifier().toString()) || tree.isStatic()) {
            importsNotListed.add(at(tree));
        }
        return super.visitImport(tree, nothing);
    }

    @Override
    public Void visitClass(ClassTree tree, Void nothing) {
        classes++;
        Tree outside = getCurrentPath().getParentPath().getLeaf();
        boolean top = outside == unit;
        boolean inside = outside instanceof ClassTree && tree.getModifiers().getFlags().contains(Modifier.STATIC);
        if (!top && !inside) {
            classesNotStatic.add(at(tree));
        }
        int count = 0;
        for (Tree member : tree.getMembers()) {
            boolean isField = member instanceof VariableTree field
                && !field.getModifiers().getFlags().contains(Modifier.STATIC);
            count += isField ? 1 : 0;
            if (member instanceof BlockTree) {
                forbidden.add(at(member));
            }
        }
        fields.put(tree.getSimpleName().toString(), count);
        return super.visitClass(tree, nothing);
    }

    @Override
    public Void visitVariable(VariableTree tree, Void nothing) {
        Element element = trees.getElement(getCurrentPath());
        TypeMirror type = element.asType();
        if (!isListed(type)) {
            typesNotListed.add(at(tree));
        }
        if (element.getKind() == ElementKind.FIELD && element.getModifiers().contains(Modifier.STATIC)) {
            boolean constant = ((VariableElement) element).getConstantValue() != null;
            boolean row = type.toString().equals("int[]") && tree.getInitializer() instanceof NewArrayTree made
                && made.getInitializers() != null;
            if (!element.getModifiers().contains(Modifier.FINAL) || !constant && !row) {
                staticFieldsNotConstant.add(at(tree));
            }
        }
        return super.visitVariable(tree, nothing);
    }

    /** int, boolean, classes of its own, and rows of these: the class has no use for others. */
    private static boolean isListed(TypeMirror type) {
        String name = type.toString().replaceFirst("\\[\\]$", "");
        return name.equals("int") || name.equals("boolean") || name.startsWith("FlushedPipes.") && !name.contains("[");
    }

    @Override
    public Void visitMethod(MethodTree tree, Void nothing) {
        String name = place();
        long first = trees.getSourcePositions().getStartPosition(unit, tree);
        long last = trees.getSourcePositions().getEndPosition(unit, tree);
        if (last > first) {
            lines.put(name, (int) (unit.getLineMap().getLineNumber(last) - unit.getLineMap().getLineNumber(first)) + 1);
        }
        parameters.put(name, tree.getParameters().size());
        if (Set.of("equals", "hashCode", "toString").contains(tree.getName().toString())) {
            forbidden.add(at(tree));
        }
        lookedAt.clear();
        new Looks().scan(getCurrentPath(), null);
        return super.visitMethod(tree, nothing);
    }

    /** Gathers the names of what a method compares, hands to one that looks at it, or has from a mask. */
    private final class Looks extends TreePathScanner<Void, Void> {
        @Override
        public Void visitBinary(BinaryTree tree, Void nothing) {
            if (isComparing(tree)) {
                lookedAt.add(tree.getLeftOperand().toString());
                lookedAt.add(tree.getRightOperand().toString());
            }
            return super.visitBinary(tree, nothing);
        }

        @Override
        public Void visitMethodInvocation(MethodInvocationTree tree, Void nothing) {
            Element called = trees.getElement(getCurrentPath());
            if (LOOKS.contains(called.getSimpleName().toString()) && tree.getArguments().size() == 1) {
                lookedAt.add(tree.getArguments().get(0).toString());
            }
            return super.visitMethodInvocation(tree, nothing);
        }

        @Override
        public Void visitVariable(VariableTree tree, Void nothing) {
            if (tree.getInitializer() instanceof MethodInvocationTree call
                && REGISTERS.contains(shortName(trees.getElement(new TreePath(getCurrentPath(), call))))) {
                lookedAt.add(tree.getName().toString());
            }
            return super.visitVariable(tree, nothing);
        }
    }

    private static boolean isComparing(BinaryTree tree) {
        return Set.of(Tree.Kind.LESS_THAN, Tree.Kind.LESS_THAN_EQUAL, Tree.Kind.GREATER_THAN,
            Tree.Kind.GREATER_THAN_EQUAL).contains(tree.getKind());
    }

    @Override
    public Void visitArrayAccess(ArrayAccessTree tree, Void nothing) {
        if (!isLookedAt(tree.getIndex())) {
            indexesNotLookedAt.add(at(tree));
        }
        return super.visitArrayAccess(tree, nothing);
    }

    private boolean isLookedAt(ExpressionTree index) {
        if (isConstant(index)) {
            return true;
        }
        if (index instanceof BinaryTree sum && isConstant(sum.getRightOperand())) {
            return isLookedAt(sum.getLeftOperand());
        }
        if (index instanceof MethodInvocationTree) {
            return REGISTERS.contains(shortName(elementOf(index)));
        }
        return index instanceof IdentifierTree && lookedAt.contains(index.toString());
    }

    private boolean isConstant(ExpressionTree tree) {
        if (tree instanceof ParenthesizedTree inside) {
            return isConstant(inside.getExpression());
        }
        if (tree instanceof BinaryTree sum) {
            return isConstant(sum.getLeftOperand()) && isConstant(sum.getRightOperand());
        }
        boolean named = tree instanceof IdentifierTree && elementOf(tree) instanceof VariableElement variable
            && variable.getConstantValue() != null;
        return tree instanceof LiteralTree || named;
    }

    @Override
    public Void visitBinary(BinaryTree tree, Void nothing) {
        boolean divides = tree.getKind() == Tree.Kind.DIVIDE || tree.getKind() == Tree.Kind.REMAINDER;
        if (divides && !isConstant(tree.getRightOperand())) {
            divisors.add(at(tree));
        }
        return super.visitBinary(tree, nothing);
    }

    @Override
    public Void visitCompoundAssignment(CompoundAssignmentTree tree, Void nothing) {
        boolean divides = tree.getKind() == Tree.Kind.DIVIDE_ASSIGNMENT
            || tree.getKind() == Tree.Kind.REMAINDER_ASSIGNMENT;
        if (divides && !isConstant(tree.getExpression())) {
            divisors.add(at(tree));
        }
        return super.visitCompoundAssignment(tree, nothing);
    }

    @Override
    public Void visitTypeCast(TypeCastTree tree, Void nothing) {
        TypeMirror type = trees.getTypeMirror(new TreePath(getCurrentPath(), tree.getType()));
        if (type == null || !type.getKind().isPrimitive() || type.getKind() == TypeKind.BOOLEAN) {
            casts.add(at(tree));
        }
        return super.visitTypeCast(tree, nothing);
    }

    private void addCall(Element called, Tree tree) {
        if (called == null || !isOwn(called) && !LIBRARY.contains(nameOf(called))) {
            callsNotListed.add(at(tree));
        }
        if (called != null && !nameOf(called).equals("java.lang.Object.<init>")) {
            calls.computeIfAbsent(place(), name -> new TreeSet<>()).add(shortName(called));
        }
    }

    @Override
    public Void visitMethodInvocation(MethodInvocationTree tree, Void nothing) {
        addCall(trees.getElement(getCurrentPath()), tree);
        return super.visitMethodInvocation(tree, nothing);
    }

    @Override
    public Void visitNewClass(NewClassTree tree, Void nothing) {
        addCall(trees.getElement(getCurrentPath()), tree);
        if (!place().endsWith(".<init>")) {
            madeByCalls.add(at(tree));
        }
        return super.visitNewClass(tree, nothing);
    }

    @Override
    public Void visitNewArray(NewArrayTree tree, Void nothing) {
        if (!place().endsWith(".<init>")) {
            madeByCalls.add(at(tree));
        }
        return super.visitNewArray(tree, nothing);
    }

    private void needsBound(Tree loop, ExpressionTree condition, boolean counts) {
        boolean[] bound = {false};
        new TreePathScanner<Void, Void>() {
            @Override
            public Void visitBinary(BinaryTree tree, Void nothing) {
                bound[0] |= isComparing(tree);
                return super.visitBinary(tree, nothing);
            }
        }.scan(condition == null ? getCurrentPath() : new TreePath(getCurrentPath(), condition), null);
        if (condition == null || !bound[0] || !counts) {
            loopsWithoutBound.add(at(loop));
        }
    }

    @Override
    public Void visitWhileLoop(WhileLoopTree tree, Void nothing) {
        needsBound(tree, tree.getCondition(), true);
        return super.visitWhileLoop(tree, nothing);
    }

    @Override
    public Void visitDoWhileLoop(DoWhileLoopTree tree, Void nothing) {
        needsBound(tree, tree.getCondition(), true);
        return super.visitDoWhileLoop(tree, nothing);
    }

    @Override
    public Void visitForLoop(ForLoopTree tree, Void nothing) {
        needsBound(tree, tree.getCondition(), !tree.getUpdate().isEmpty());
        return super.visitForLoop(tree, nothing);
    }

    @Override
    public Void visitLambdaExpression(LambdaExpressionTree tree, Void nothing) {
        forbidden.add(at(tree));
        return super.visitLambdaExpression(tree, nothing);
    }

    @Override
    public Void visitMemberReference(MemberReferenceTree tree, Void nothing) {
        forbidden.add(at(tree));
        return super.visitMemberReference(tree, nothing);
    }

    @Override
    public Void visitThrow(ThrowTree tree, Void nothing) {
        forbidden.add(at(tree));
        return super.visitThrow(tree, nothing);
    }

    @Override
    public Void visitTry(TryTree tree, Void nothing) {
        forbidden.add(at(tree));
        return super.visitTry(tree, nothing);
    }

    @Override
    public Void visitSynchronized(SynchronizedTree tree, Void nothing) {
        forbidden.add(at(tree));
        return super.visitSynchronized(tree, nothing);
    }

    @Override
    public Void visitAssert(AssertTree tree, Void nothing) {
        forbidden.add(at(tree));
        return super.visitAssert(tree, nothing);
    }

    /** Methods from which calls come back to themselves. */
    Set<String> recursive() {
        Set<String> found = new TreeSet<>();
        for (String method : calls.keySet()) {
            Set<String> reached = new TreeSet<>();
            reach(method, reached);
            if (reached.contains(method)) {
                found.add(method);
            }
        }
        return found;
    }

    private void reach(String method, Set<String> reached) {
        for (String called : calls.getOrDefault(method, Set.of())) {
            if (reached.add(called)) {
                reach(called, reached);
            }
        }
    }

    /** The longest row of calls that stand open at once, each method once. */
    List<String> deepestCalls() {
        List<String> deepest = List.of();
        for (String method : calls.keySet()) {
            List<String> row = deepestFrom(method, List.of());
            deepest = row.size() > deepest.size() ? row : deepest;
        }
        return deepest;
    }

    private List<String> deepestFrom(String method, List<String> open) {
        List<String> here = new ArrayList<>(open);
        here.add(method);
        List<String> deepest = here;
        for (String called : calls.getOrDefault(method, Set.of())) {
            List<String> row = here.contains(called) ? here : deepestFrom(called, here);
            deepest = row.size() > deepest.size() ? row : deepest;
        }
        return deepest;
    }
}
