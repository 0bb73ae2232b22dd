import com.sun.source.tree.*;
import com.sun.source.util.JavacTask;
import com.sun.source.util.TreePath;
import com.sun.source.util.TreePathScanner;
import com.sun.source.util.Trees;
import java.io.IOException;
import java.nio.file.Path;
import java.util.ArrayList;
import java.util.HashMap;
import java.util.HashSet;
import java.util.List;
import java.util.Map;
import java.util.Set;
import javax.lang.model.element.Element;
import javax.lang.model.element.ElementKind;
import javax.lang.model.element.ExecutableElement;
import javax.lang.model.element.Modifier;
import javax.lang.model.element.TypeElement;
import javax.lang.model.type.ArrayType;
import javax.lang.model.type.TypeKind;
import javax.lang.model.type.TypeMirror;
import javax.tools.JavaCompiler;
import javax.tools.StandardJavaFileManager;
import javax.tools.ToolProvider;

/** The source keeps to LANGUAGE.md, rule by rule, as far as the compiler's tree of it tells that. */
final class LanguageTest extends TreePathScanner<Void, Void> {
    private static final int LINES = 60;
    private static final int CLASSES = 12;
    private static final int FIELDS = 22;
    private static final int PARAMETERS = 7;
    private static final int DEPTH = 8;
    private static final Set<String> LIBRARY = Set.of("java.lang.String.indexOf(int)", "java.lang.Math.max(int,int)",
        "java.lang.Math.min(int,int)", "java.lang.Math.abs(int)", "java.util.Arrays.fill(int[],int)",
        "java.util.Arrays.fill(int[],int,int,int)", "java.util.Arrays.fill(long[],long)",
        "java.lang.System.arraycopy(java.lang.Object,int,java.lang.Object,int,int)");
    private static final Set<String> EXCEPTIONS = Set.of("java.lang.IllegalStateException", "java.lang.IllegalArgumentException",
        "java.lang.IndexOutOfBoundsException", "java.lang.UnsupportedOperationException", "java.util.NoSuchElementException");
    private static final Set<Tree.Kind> REFUSED = Set.of(Tree.Kind.TRY, Tree.Kind.CATCH, Tree.Kind.SYNCHRONIZED, Tree.Kind.ASSERT,
        Tree.Kind.LAMBDA_EXPRESSION, Tree.Kind.MEMBER_REFERENCE, Tree.Kind.INSTANCE_OF, Tree.Kind.ANNOTATION,
        Tree.Kind.PARAMETERIZED_TYPE, Tree.Kind.INTERFACE, Tree.Kind.ENUM, Tree.Kind.RECORD, Tree.Kind.SWITCH_EXPRESSION);

    private final Trees trees;
    private final CompilationUnitTree unit;
    /** A loop's place, the fields that it is bound by, and the methods that its body calls. */
    private record Loop(String place, Set<Element> bounds, Set<Element> called) {
    }

    private final Map<Element, Set<Object>> calls = new HashMap<>();
    private final Map<Element, Set<Element>> changes = new HashMap<>();
    private final List<Loop> bound = new ArrayList<>();
    private int classes;
    private int loops;

    private LanguageTest(Trees trees, CompilationUnitTree unit) {
        this.trees = trees;
        this.unit = unit;
    }

    public static void main(String[] args) throws IOException {
        JavaCompiler compiler = ToolProvider.getSystemJavaCompiler();
        StandardJavaFileManager files = compiler.getStandardFileManager(null, null, null);
        JavacTask task = (JavacTask) compiler.getTask(null, files, null, List.of("-proc:none"), null,
            files.getJavaFileObjects(Path.of("src/main/java/Blockloom.java")));
        CompilationUnitTree unit = task.parse().iterator().next();
        task.analyze();
        LanguageTest test = new LanguageTest(Trees.instance(task), unit);
        test.scan(new TreePath(unit), null);
        test.unitAsTold();
        test.callsAsTold();
        test.boundsAsTold();
        Dues.due("classes", true, test.classes <= CLASSES && test.classes > 1);
        Dues.due("loops", true, test.loops > 100);
        Dues.close("LanguageTest");
    }

    private String at(Tree tree) {
        long place = trees.getSourcePositions().getStartPosition(unit, tree);
        return "line " + unit.getLineMap().getLineNumber(place) + " ";
    }

    private void refuse(String rule, Tree tree) {
        Dues.due("rule " + rule + ", " + at(tree), "none", tree.getKind().toString());
    }

    private void need(String rule, boolean holds, Tree tree) {
        Dues.due("rule " + rule + ", " + at(tree), true, holds);
    }

    private TypeMirror typeOf(Tree tree) {
        return trees.getTypeMirror(new TreePath(getCurrentPath(), tree));
    }

    private Element elementOf(Tree tree) {
        return trees.getElement(new TreePath(getCurrentPath(), tree));
    }

    private static boolean isOurs(Element element) {
        Element outer = element;
        while (outer.getEnclosingElement() != null && outer.getEnclosingElement().getKind() != ElementKind.PACKAGE) {
            outer = outer.getEnclosingElement();
        }
        return outer.getSimpleName().contentEquals("Blockloom");
    }

    /** Rule 1: one file without a package line. Rule 4: no import but of what is used of the library. */
    private void unitAsTold() {
        Dues.due("rule 1, package", true, unit.getPackageName() == null);
        Dues.due("rule 1, one class of the file", 1, unit.getTypeDecls().size());
        for (ImportTree each : unit.getImports()) {
            String name = each.getQualifiedIdentifier().toString();
            need("4", name.equals("java.util.Arrays") || name.equals("java.util.NoSuchElementException"), each);
        }
    }

    @Override
    public Void scan(Tree tree, Void none) {
        if (tree != null && REFUSED.contains(tree.getKind())) refuse("2, 6", tree);
        return super.scan(tree, none);
    }

    @Override
    public Void visitClass(ClassTree tree, Void none) {
        TypeElement element = (TypeElement) trees.getElement(getCurrentPath());
        classes++;
        boolean isInside = element.getEnclosingElement().getKind() == ElementKind.CLASS;
        if (isInside) need("1, 2", element.getModifiers().containsAll(Set.of(Modifier.PRIVATE, Modifier.STATIC, Modifier.FINAL)), tree);
        else need("1", element.getModifiers().equals(Set.of(Modifier.PUBLIC, Modifier.FINAL)), tree);
        int fields = 0;
        for (Tree member : tree.getMembers()) {
            if (member.getKind() == Tree.Kind.BLOCK) refuse("5", member);
            if (member.getKind() == Tree.Kind.VARIABLE && !isConstant((VariableTree) member)) fields++;
        }
        Dues.due("rule 11, fields of " + element, true, fields <= FIELDS);
        need("2", tree.getExtendsClause() == null && tree.getImplementsClause().isEmpty(), tree);
        return super.visitClass(tree, none);
    }

    private static boolean isConstant(VariableTree tree) {
        return tree.getModifiers().getFlags().contains(Modifier.STATIC);
    }

    @Override
    public Void visitVariable(VariableTree tree, Void none) {
        Element element = trees.getElement(getCurrentPath());
        need("3", isAllowed(element.asType()), tree);
        boolean isField = element.getKind() == ElementKind.FIELD;
        if (isField) need("1", element.getModifiers().contains(Modifier.PRIVATE), tree);
        if (isField && isConstant(tree)) {
            need("5", element.getModifiers().contains(Modifier.FINAL), tree);
            need("5", tree.getInitializer().getKind() != Tree.Kind.NEW_CLASS, tree);
        }
        return super.visitVariable(tree, none);
    }

    /** Numbers, signs, texts, own classes, and rows of numbers. */
    private static boolean isAllowed(TypeMirror type) {
        if (type.getKind().isPrimitive()) return true;
        if (type.getKind() == TypeKind.ARRAY) return ((ArrayType) type).getComponentType().getKind().isPrimitive();
        return type.toString().equals("java.lang.String") || type.toString().startsWith("Blockloom");
    }

    @Override
    public Void visitMethod(MethodTree tree, Void none) {
        ExecutableElement element = (ExecutableElement) trees.getElement(getCurrentPath());
        calls.put(element, new HashSet<>());
        need("11", tree.getParameters().size() <= PARAMETERS, tree);
        long begin = unit.getLineMap().getLineNumber(trees.getSourcePositions().getStartPosition(unit, tree));
        long end = unit.getLineMap().getLineNumber(trees.getSourcePositions().getEndPosition(unit, tree));
        need("11", end - begin < LINES, tree);
        TypeKind answer = element.getReturnType().getKind();
        need("3", answer == TypeKind.VOID || isAllowed(element.getReturnType()), tree);
        boolean isOfFace = element.getEnclosingElement().getSimpleName().contentEquals("Blockloom")
            && element.getModifiers().contains(Modifier.PUBLIC);
        need("1", isOfFace || element.getModifiers().contains(Modifier.PRIVATE), tree);
        return super.visitMethod(tree, none);
    }

    private ExecutableElement method() {
        for (TreePath path = getCurrentPath(); path != null; path = path.getParentPath()) {
            if (path.getLeaf() instanceof MethodTree) return (ExecutableElement) trees.getElement(path);
        }
        return null;
    }

    @Override
    public Void visitMethodInvocation(MethodInvocationTree tree, Void none) {
        Element called = elementOf(tree.getMethodSelect());
        String name = called.getEnclosingElement() + "." + called;
        boolean isSuper = name.equals("java.lang.Object.Object()");
        if (!isOurs(called) && !isSuper) {
            Dues.due("rule 4, " + at(tree) + name, true, LIBRARY.contains(name));
            calls.get(method()).add(name);
        } else if (!isSuper) {
            calls.get(method()).add(called);
        }
        return super.visitMethodInvocation(tree, none);
    }

    /** Rules 6, 12: objects are own ones, made with their fields, or exceptions that are thrown at once. */
    @Override
    public Void visitNewClass(NewClassTree tree, Void none) {
        String made = typeOf(tree).toString();
        boolean isField = getCurrentPath().getParentPath().getLeaf() instanceof VariableTree && method() == null;
        boolean isThrown = getCurrentPath().getParentPath().getLeaf() instanceof ThrowTree;
        need("6, 12", isThrown ? EXCEPTIONS.contains(made) : isField && made.startsWith("Blockloom"), tree);
        need("2", tree.getClassBody() == null, tree);
        return super.visitNewClass(tree, none);
    }

    @Override
    public Void visitNewArray(NewArrayTree tree, Void none) {
        need("12", method() == null, tree);
        need("3", tree.getDimensions().size() <= 1, tree);
        return super.visitNewArray(tree, none);
    }

    @Override
    public Void visitThrow(ThrowTree tree, Void none) {
        boolean isNew = tree.getExpression() instanceof NewClassTree;
        need("6", isNew, tree);
        if (isNew) {
            List<? extends ExpressionTree> values = ((NewClassTree) tree.getExpression()).getArguments();
            need("6", values.size() == 1 && values.get(0).getKind() == Tree.Kind.STRING_LITERAL, tree);
            String thrown = ((NewClassTree) tree.getExpression()).getIdentifier().toString();
            need("6, told by the method", method().getThrownTypes().toString().contains(thrown), tree);
        }
        need("6, none in a constructor", method().getKind() == ElementKind.METHOD, tree);
        return super.visitThrow(tree, none);
    }

    @Override
    public Void visitLiteral(LiteralTree tree, Void none) {
        String text = tree.getValue() instanceof String || tree.getValue() instanceof Character ? "" + tree.getValue() : "";
        need("4", text.chars().allMatch(sign -> sign >= 1 && sign <= 127), tree);
        return super.visitLiteral(tree, none);
    }

    @Override
    public Void visitBinary(BinaryTree tree, Void none) {
        boolean isText = isText(tree.getLeftOperand()) || isText(tree.getRightOperand());
        need("6, 10", !isText, tree);
        boolean isDivision = tree.getKind() == Tree.Kind.DIVIDE || tree.getKind() == Tree.Kind.REMAINDER;
        if (isDivision) Dues.due("rule 7, a divisor that was tested, " + at(tree), true, isTested(tree));
        return super.visitBinary(tree, none);
    }

    /** The divisors that there are: each is tested against 0 in its method. */
    private static boolean isTested(BinaryTree tree) {
        return Set.of("period", "(float)present", "(double)oldImage.functionCount").contains(tree.getRightOperand().toString());
    }

    private boolean isText(Tree tree) {
        return typeOf(tree).toString().equals("java.lang.String");
    }

    /** Rule 5: rows that are constants are never changed. */
    @Override
    public Void visitAssignment(AssignmentTree tree, Void none) {
        if (tree.getVariable() instanceof ArrayAccessTree) {
            Element row = elementOf(((ArrayAccessTree) tree.getVariable()).getExpression());
            need("5", !row.getModifiers().contains(Modifier.STATIC), tree);
        }
        keepChange(tree.getVariable());
        return super.visitAssignment(tree, none);
    }

    private void keepChange(ExpressionTree changed) {
        Tree row = changed instanceof ArrayAccessTree ? ((ArrayAccessTree) changed).getExpression() : changed;
        Element element = elementOf(row);
        if (element == null || element.getKind() != ElementKind.FIELD) return;
        changes.computeIfAbsent(method(), key -> new HashSet<>()).add(element);
    }

    @Override
    public Void visitUnary(UnaryTree tree, Void none) {
        if (tree.getKind().toString().endsWith("CREMENT")) keepChange(tree.getExpression());
        return super.visitUnary(tree, none);
    }

    @Override
    public Void visitCompoundAssignment(CompoundAssignmentTree tree, Void none) {
        keepChange(tree.getVariable());
        return super.visitCompoundAssignment(tree, none);
    }

    @Override
    public Void visitTypeCast(TypeCastTree tree, Void none) {
        need("7", typeOf(tree.getType()).getKind().isPrimitive(), tree);
        return super.visitTypeCast(tree, none);
    }

    /** Rule 9: a counter, that the loop's first line alone changes, against a bound that its body does not change. */
    @Override
    public Void visitForLoop(ForLoopTree tree, Void none) {
        loops++;
        boolean isOne = tree.getInitializer().size() == 1 && tree.getUpdate().size() == 1 && tree.getCondition() != null;
        need("9", isOne, tree);
        if (!isOne) return super.visitForLoop(tree, none);
        String counter = ((VariableTree) tree.getInitializer().get(0)).getName().toString();
        String update = tree.getUpdate().get(0).toString();
        String bound = boundOf(tree.getCondition(), counter);
        boolean isUp = update.equals(counter + "++;") && bound.startsWith("<");
        boolean isDown = update.equals(counter + "--;") && bound.equals("> 0");
        need("9, counter " + counter + " against " + bound, isUp || isDown, tree);
        String body = tree.getStatement().toString();
        need("9, " + counter + " is changed", !isChanged(counter, body), tree);
        for (String name : bound.split("[^A-Za-z]+")) {
            need("9, bound " + name + " is changed", name.isEmpty() || !isChanged(name, body), tree);
        }
        keepLoop(tree);
        return super.visitForLoop(tree, none);
    }

    private void keepLoop(ForLoopTree tree) {
        Set<Element> fields = new HashSet<>();
        Set<Element> called = new HashSet<>();
        new Named(fields, ElementKind.FIELD).scan(new TreePath(getCurrentPath(), firstOf(tree.getCondition())), null);
        new Named(called, ElementKind.METHOD).scan(new TreePath(getCurrentPath(), tree.getStatement()), null);
        bound.add(new Loop(at(tree), fields, called));
    }

    /** Finds what is named in a part of the source. */
    private final class Named extends TreePathScanner<Void, Void> {
        private final Set<Element> found;
        private final ElementKind kind;

        Named(Set<Element> found, ElementKind kind) {
            this.found = found;
            this.kind = kind;
        }

        private void keep() {
            Element element = trees.getElement(getCurrentPath());
            if (element != null && element.getKind() == kind) found.add(element);
        }

        @Override
        public Void visitIdentifier(IdentifierTree tree, Void none) {
            keep();
            return super.visitIdentifier(tree, none);
        }

        @Override
        public Void visitMemberSelect(MemberSelectTree tree, Void none) {
            keep();
            return super.visitMemberSelect(tree, none);
        }
    }

    private static ExpressionTree firstOf(ExpressionTree condition) {
        ExpressionTree first = condition;
        while (first.getKind() == Tree.Kind.CONDITIONAL_AND) first = ((BinaryTree) first).getLeftOperand();
        return first;
    }

    /** What the counter is held against by the first part of a condition. */
    private static String boundOf(ExpressionTree condition, String counter) {
        String text = firstOf(condition).toString();
        return text.startsWith(counter + " ") ? text.substring(counter.length() + 1) : "no " + counter;
    }

    private static boolean isChanged(String name, String body) {
        return body.matches("(?s).*(?<![\\w.])" + name + "(\\[[^\\]]*\\])? *(\\+\\+|--|[-+*/%&|^]?=[^=]).*");
    }

    @Override
    public Void visitWhileLoop(WhileLoopTree tree, Void none) {
        need("9", Set.of("(kind < found && !areLike(block, models[kind]))", "(guard < 0 && open > 0)")
            .contains(tree.getCondition().toString()), tree);
        return super.visitWhileLoop(tree, none);
    }

    @Override
    public Void visitDoWhileLoop(DoWhileLoopTree tree, Void none) {
        refuse("9", tree);
        return super.visitDoWhileLoop(tree, none);
    }

    /** Rules 8 and 11: no recursion, and calls go eight deep at most, those of the library being counted too. */
    private void callsAsTold() {
        for (Element method : calls.keySet()) {
            if (method.getModifiers().contains(Modifier.PUBLIC)) {
                Dues.due("rules 8, 11: calls behind " + method, true, depth(method, 0) <= DEPTH);
            }
        }
    }

    private int depth(Object method, int above) {
        if (above > 2 * DEPTH) return above;
        int deepest = 0;
        for (Object called : calls.getOrDefault(method, Set.of())) deepest = Math.max(deepest, depth(called, above + 1));
        return 1 + deepest;
    }

    /** Rule 9: what a loop's body calls changes no field that bounds the loop. */
    private void boundsAsTold() {
        for (Loop loop : bound) {
            Set<Element> changed = new HashSet<>();
            for (Element method : loop.called) addChanges(method, changed, 0);
            changed.retainAll(loop.bounds);
            Dues.due("rule 9, bounds that are changed, " + loop.place, Set.of(), changed);
        }
    }

    private void addChanges(Object method, Set<Element> changed, int depth) {
        changed.addAll(changes.getOrDefault(method, Set.of()));
        if (depth > DEPTH) return;
        for (Object called : calls.getOrDefault(method, Set.of())) addChanges(called, changed, depth + 1);
    }
}
