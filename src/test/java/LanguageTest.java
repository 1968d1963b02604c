import com.sun.source.tree.*;
import com.sun.source.util.JavacTask;
import com.sun.source.util.TreePath;
import com.sun.source.util.TreePathScanner;
import com.sun.source.util.Trees;
import java.nio.file.Path;
import java.util.ArrayDeque;
import java.util.Deque;
import java.util.HashMap;
import java.util.HashSet;
import java.util.List;
import java.util.Map;
import java.util.Set;
import javax.lang.model.element.Element;
import javax.lang.model.element.ElementKind;
import javax.lang.model.element.ExecutableElement;
import javax.lang.model.element.Modifier;
import javax.lang.model.type.ArrayType;
import javax.lang.model.type.TypeKind;
import javax.lang.model.type.TypeMirror;
import javax.tools.JavaCompiler;
import javax.tools.StandardJavaFileManager;
import javax.tools.ToolProvider;

/**
 * The rules of LANGUAGE.md that can be read off the source, by their numbers. FaceTest has rule 1; what
 * rules 7 and 12 ask of a run is in AnyCallsTest and RoomTest. The document wants no exception, so that
 * rule 6 leaves no throw and no try.
 */
public final class LanguageTest extends LoomTest {
    private static final Set<String> TYPES = Set.of("java.lang.String", "java.lang.StringBuilder", "java.lang.Integer", "java.util.List", "java.util.ArrayList");
    private static final Set<String> LIBRARY = Set.of("java.util.Arrays.fill", "java.util.Arrays.copyOf", "java.util.Arrays.copyOfRange", "java.lang.System.arraycopy");
    private static final Set<String> CLASSES_OF_NUMBERS = Set.of("java.lang.Integer", "java.lang.Long", "java.lang.Math");
    private static final Set<TypeKind> CONSTANTS = Set.of(TypeKind.INT, TypeKind.LONG, TypeKind.BOOLEAN, TypeKind.CHAR);
    private static final Set<TypeKind> CONSTANT_ROWS = Set.of(TypeKind.INT, TypeKind.LONG, TypeKind.CHAR, TypeKind.BYTE);
    private static final Set<Tree.Kind> ON_BROKEN = Set.of(Tree.Kind.PLUS, Tree.Kind.MINUS, Tree.Kind.MULTIPLY, Tree.Kind.DIVIDE, Tree.Kind.UNARY_MINUS,
        Tree.Kind.LESS_THAN, Tree.Kind.LESS_THAN_EQUAL, Tree.Kind.GREATER_THAN, Tree.Kind.GREATER_THAN_EQUAL, Tree.Kind.EQUAL_TO, Tree.Kind.NOT_EQUAL_TO,
        Tree.Kind.PLUS_ASSIGNMENT, Tree.Kind.MINUS_ASSIGNMENT, Tree.Kind.MULTIPLY_ASSIGNMENT, Tree.Kind.DIVIDE_ASSIGNMENT);
    /** What is refused wherever it stands, with the rule that refuses it. */
    private static final Map<Tree.Kind, Integer> REFUSED = Map.of(Tree.Kind.LAMBDA_EXPRESSION, 2, Tree.Kind.MEMBER_REFERENCE, 2,
        Tree.Kind.THROW, 6, Tree.Kind.TRY, 6, Tree.Kind.SYNCHRONIZED, 6, Tree.Kind.ASSERT, 6);

    private static final int PARAMETERS = 7;
    private static final int LINES = 60;
    private static final int DEEP = 8;
    private static final int CLASSES = 12;
    private static final int FIELDS = 20;

    private static final class Reader extends TreePathScanner<Void, Void> {
        final Trees trees;
        final CompilationUnitTree unit;
        final Map<Element, Set<Element>> calls = new HashMap<>();
        final Deque<Element> inside = new ArrayDeque<>();
        int classes;

        Reader(Trees trees, CompilationUnitTree unit) {
            this.trees = trees;
            this.unit = unit;
        }

        long line(long position) {
            return unit.getLineMap().getLineNumber(position);
        }

        long start(Tree t) {
            return trees.getSourcePositions().getStartPosition(unit, t);
        }

        void rule(int number, Tree t, boolean kept) {
            if (!kept) due("rule " + number + ", line " + line(start(t)) + ": " + t.toString().strip().lines().findFirst().orElse(""), false, true);
        }

        TypeMirror typeOf(Tree t) {
            return trees.getTypeMirror(new TreePath(getCurrentPath(), t));
        }

        boolean isOwn(String name) {
            return name.equals("FaultLoom") || name.startsWith("FaultLoom.");
        }

        boolean isFine(TypeMirror type, int dimensions) {
            if (type.getKind() == TypeKind.ARRAY) return isFine(((ArrayType) type).getComponentType(), dimensions + 1);
            if (type.getKind().isPrimitive()) return dimensions <= 2;
            return dimensions <= 1 && isOwn(type.toString()) || dimensions == 0 && TYPES.contains(type.toString().replaceAll("<.*", ""));
        }

        boolean isBroken(Tree t) {
            TypeKind kind = typeOf(t).getKind();
            return kind == TypeKind.FLOAT || kind == TypeKind.DOUBLE;
        }

        boolean isText(Tree t) {
            return typeOf(t).toString().equals("java.lang.String");
        }

        @Override
        public Void scan(Tree t, Void none) {
            if (t != null && REFUSED.containsKey(t.getKind())) rule(REFUSED.get(t.getKind()), t, false);
            return super.scan(t, none);
        }

        @Override
        public Void visitClass(ClassTree t, Void none) {
            classes++;
            Element e = trees.getElement(getCurrentPath());
            rule(2, t, e.getEnclosingElement().getKind() != ElementKind.METHOD);
            rule(1, t, classes == 1 || e.getModifiers().contains(Modifier.STATIC) && !e.getModifiers().contains(Modifier.PUBLIC) && !e.getModifiers().contains(Modifier.PROTECTED));
            int fields = 0;
            for (Element member : e.getEnclosedElements()) {
                if (member.getKind() == ElementKind.FIELD && !member.getModifiers().contains(Modifier.STATIC)) fields++;
            }
            rule(11, t, fields <= FIELDS);
            for (Tree member : t.getMembers()) rule(5, member, member.getKind() != Tree.Kind.BLOCK);
            return super.visitClass(t, none);
        }

        @Override
        public Void visitMethod(MethodTree t, Void none) {
            rule(11, t, t.getParameters().size() <= PARAMETERS);
            if (start(t) >= 0) rule(11, t, line(trees.getSourcePositions().getEndPosition(unit, t)) - line(start(t)) < LINES);
            inside.push(trees.getElement(getCurrentPath()));
            super.visitMethod(t, none);
            inside.pop();
            return null;
        }

        @Override
        public Void visitVariable(VariableTree t, Void none) {
            Element e = trees.getElement(getCurrentPath());
            rule(3, t, isFine(e.asType(), 0));
            if (e.getKind() == ElementKind.FIELD && e.getModifiers().contains(Modifier.STATIC)) rule(5, t, isConstant(t, e));
            return super.visitVariable(t, none);
        }

        boolean isConstant(VariableTree t, Element e) {
            if (!e.getModifiers().contains(Modifier.FINAL) || t.getInitializer() == null) return false;
            TypeMirror type = e.asType();
            if (type.getKind() != TypeKind.ARRAY) return CONSTANTS.contains(type.getKind()) || type.toString().equals("java.lang.String");
            return CONSTANT_ROWS.contains(((ArrayType) type).getComponentType().getKind())
                && t.getInitializer() instanceof NewArrayTree && ((NewArrayTree) t.getInitializer()).getInitializers() != null;
        }

        void changes(Tree target) {
            if (!(target instanceof ArrayAccessTree)) return;
            Element row = trees.getElement(new TreePath(getCurrentPath(), ((ArrayAccessTree) target).getExpression()));
            rule(5, target, row == null || !row.getModifiers().contains(Modifier.STATIC));
        }

        @Override
        public Void visitAssignment(AssignmentTree t, Void none) {
            changes(t.getVariable());
            return super.visitAssignment(t, none);
        }

        @Override
        public Void visitCompoundAssignment(CompoundAssignmentTree t, Void none) {
            changes(t.getVariable());
            rule(3, t, !isBroken(t.getVariable()) && !isBroken(t.getExpression()) || ON_BROKEN.contains(t.getKind()));
            rule(10, t, !isText(t.getVariable()));
            return super.visitCompoundAssignment(t, none);
        }

        @Override
        public Void visitUnary(UnaryTree t, Void none) {
            changes(t.getExpression());
            rule(3, t, !isBroken(t.getExpression()) || ON_BROKEN.contains(t.getKind()));
            return super.visitUnary(t, none);
        }

        @Override
        public Void visitBinary(BinaryTree t, Void none) {
            boolean broken = isBroken(t.getLeftOperand()) || isBroken(t.getRightOperand());
            rule(3, t, !broken || ON_BROKEN.contains(t.getKind()));
            rule(10, t, !isText(t.getLeftOperand()) && !isText(t.getRightOperand()));
            return super.visitBinary(t, none);
        }

        /** A cast of a reference would have to stand behind its test: there is none. */
        @Override
        public Void visitTypeCast(TypeCastTree t, Void none) {
            rule(6, t, typeOf(t.getType()).getKind().isPrimitive());
            return super.visitTypeCast(t, none);
        }

        @Override
        public Void visitLiteral(LiteralTree t, Void none) {
            if (t.getValue() instanceof Character) rule(3, t, (Character) t.getValue() <= 255);
            if (t.getValue() instanceof String) rule(3, t, ((String) t.getValue()).chars().allMatch(c -> c <= 255));
            return super.visitLiteral(t, none);
        }

        boolean hasEnd(ExpressionTree condition) {
            return condition != null && !condition.toString().replaceAll("[() ]", "").equals("true");
        }

        @Override
        public Void visitForLoop(ForLoopTree t, Void none) {
            rule(9, t, hasEnd(t.getCondition()));
            return super.visitForLoop(t, none);
        }

        @Override
        public Void visitWhileLoop(WhileLoopTree t, Void none) {
            rule(9, t, hasEnd(t.getCondition()));
            return super.visitWhileLoop(t, none);
        }

        @Override
        public Void visitDoWhileLoop(DoWhileLoopTree t, Void none) {
            rule(9, t, hasEnd(t.getCondition()));
            return super.visitDoWhileLoop(t, none);
        }

        void called(Tree t, Element e) {
            String owner = e.getEnclosingElement().toString();
            if (isOwn(owner)) {
                if (!inside.isEmpty()) calls.computeIfAbsent(inside.peek(), k -> new HashSet<>()).add(e);
                return;
            }
            String name = e.getSimpleName().toString();
            boolean numbers = CLASSES_OF_NUMBERS.contains(owner) && !name.endsWith("Exact")
                && ((ExecutableElement) e).getParameters().stream().allMatch(p -> p.asType().getKind() == TypeKind.INT || p.asType().getKind() == TypeKind.LONG);
            rule(4, t, owner.equals("java.lang.Object") && name.equals("<init>") || LIBRARY.contains(owner + "." + name) || numbers);
        }

        @Override
        public Void visitMethodInvocation(MethodInvocationTree t, Void none) {
            called(t, trees.getElement(getCurrentPath()));
            return super.visitMethodInvocation(t, none);
        }

        @Override
        public Void visitNewClass(NewClassTree t, Void none) {
            called(t, trees.getElement(getCurrentPath()));
            rule(2, t, t.getClassBody() == null);
            return super.visitNewClass(t, none);
        }

        /** How many calls stand open at once behind this one; one that calls itself never gets an answer. */
        int depth(Element method, Deque<Element> open) {
            due("rule 8: " + method + " does not call itself", open.contains(method), false);
            if (open.contains(method)) return 0;
            open.push(method);
            int most = 0;
            for (Element next : calls.getOrDefault(method, Set.of())) most = Math.max(most, depth(next, open));
            open.pop();
            return 1 + most;
        }
    }

    public static void main(String[] args) throws Exception {
        JavaCompiler compiler = ToolProvider.getSystemJavaCompiler();
        try (StandardJavaFileManager files = compiler.getStandardFileManager(null, null, null)) {
            JavacTask task = (JavacTask) compiler.getTask(null, files, null, List.of("--release", "17", "-proc:none"), null,
                files.getJavaFileObjects(Path.of("src/main/java/FaultLoom.java")));
            CompilationUnitTree unit = task.parse().iterator().next();
            task.analyze();
            Reader reader = new Reader(Trees.instance(task), unit);
            reader.scan(new TreePath(unit), null);
            due("no package line", unit.getPackage() == null, true);
            due("one class, and all others inside it", unit.getTypeDecls().size(), 1);
            due("rule 11: classes", reader.classes <= CLASSES, true);
            due("the source was read: methods that call others", reader.calls.size() > 10, true);
            for (Element method : reader.calls.keySet()) due("rule 11: calls are at most eight deep from " + method, reader.depth(method, new ArrayDeque<>()) <= DEEP, true);
        }
        finish();
    }
}
