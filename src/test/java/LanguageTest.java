import com.sun.source.tree.ArrayAccessTree;
import com.sun.source.tree.AssignmentTree;
import com.sun.source.tree.BinaryTree;
import com.sun.source.tree.BlockTree;
import com.sun.source.tree.ClassTree;
import com.sun.source.tree.CompilationUnitTree;
import com.sun.source.tree.CompoundAssignmentTree;
import com.sun.source.tree.ExpressionTree;
import com.sun.source.tree.ForLoopTree;
import com.sun.source.tree.IdentifierTree;
import com.sun.source.tree.MethodInvocationTree;
import com.sun.source.tree.MethodTree;
import com.sun.source.tree.NewArrayTree;
import com.sun.source.tree.NewClassTree;
import com.sun.source.tree.Tree;
import com.sun.source.tree.TypeCastTree;
import com.sun.source.tree.UnaryTree;
import com.sun.source.tree.VariableTree;
import com.sun.source.tree.WhileLoopTree;
import com.sun.source.util.JavacTask;
import com.sun.source.util.TreePath;
import com.sun.source.util.TreePathScanner;
import com.sun.source.util.Trees;
import java.io.File;
import java.io.IOException;
import java.util.ArrayDeque;
import java.util.ArrayList;
import java.util.Deque;
import java.util.EnumSet;
import java.util.HashMap;
import java.util.LinkedHashSet;
import java.util.List;
import java.util.Map;
import java.util.Set;
import javax.lang.model.element.Element;
import javax.lang.model.element.ElementKind;
import javax.lang.model.element.Modifier;
import javax.lang.model.type.TypeKind;
import javax.lang.model.type.TypeMirror;
import javax.tools.JavaCompiler;
import javax.tools.StandardJavaFileManager;
import javax.tools.ToolProvider;

/** The rules of LANGUAGE.md that can be seen in the file as the compiler itself reads it. */
public final class LanguageTest {
    private static final int DEEPEST = 8;
    private static final Set<String> LIBRARY = Set.of("java.lang.String.length", "java.lang.String.charAt",
            "java.lang.Math.max", "java.lang.System.arraycopy", "java.lang.Object.<init>");
    private static final Set<String> TYPES = Set.of("int", "long", "boolean", "int[]", "long[]", "boolean[]",
            "java.lang.String");
    private static final Set<String> CONSTANT_TYPES = Set.of("int", "long", "int[]");
    private static final Set<Tree.Kind> BARRED = EnumSet.of(Tree.Kind.LAMBDA_EXPRESSION, Tree.Kind.MEMBER_REFERENCE,
            Tree.Kind.THROW, Tree.Kind.TRY, Tree.Kind.SYNCHRONIZED, Tree.Kind.ASSERT, Tree.Kind.INSTANCE_OF,
            Tree.Kind.SWITCH_EXPRESSION, Tree.Kind.ANNOTATION, Tree.Kind.IMPORT, Tree.Kind.PACKAGE, Tree.Kind.ENUM,
            Tree.Kind.INTERFACE, Tree.Kind.RECORD);
    private static final Set<Tree.Kind> COUNTING = EnumSet.of(Tree.Kind.PREFIX_INCREMENT, Tree.Kind.PREFIX_DECREMENT,
            Tree.Kind.POSTFIX_INCREMENT, Tree.Kind.POSTFIX_DECREMENT);
    private static final Set<TypeKind> FRACTIONS = EnumSet.of(TypeKind.DOUBLE, TypeKind.FLOAT);
    private static final Check check = new Check();

    public static void main(String[] args) throws IOException {
        JavaCompiler compiler = ToolProvider.getSystemJavaCompiler();
        try (StandardJavaFileManager files = compiler.getStandardFileManager(null, null, null)) {
            JavacTask task = (JavacTask) compiler.getTask(null, files, null, List.of("-proc:none"), null,
                    files.getJavaFileObjects(new File("src/main/java/LooksByMany.java")));
            Reader reader = new Reader(Trees.instance(task));
            List<CompilationUnitTree> units = new ArrayList<>();
            task.parse().forEach(units::add);
            task.analyze();
            units.forEach(unit -> reader.scan(unit, null));
            callsAreFew(reader);
        }
        check.end();
    }

    private static void callsAreFew(Reader reader) {
        check.isTrue("there are methods with calls", reader.calls.size() > 50);
        int deepest = 0;
        for (Element method : reader.calls.keySet()) {
            deepest = Math.max(deepest, depthOf(method, reader.calls, new ArrayDeque<>()));
        }
        check.isTrue("rule 11: calls go eight deep at most: " + deepest, deepest <= DEEPEST);
    }

    private static int depthOf(Element method, Map<Element, Set<Element>> calls, Deque<Element> open) {
        if (open.contains(method)) {
            check.isTrue("rule 8: no call comes back to " + method, false);
            return 0;
        }
        open.push(method);
        int below = 0;
        for (Element called : calls.getOrDefault(method, Set.of())) {
            below = Math.max(below, depthOf(called, calls, open));
        }
        open.pop();
        return below + 1;
    }

    /** Goes through the file and asks of each of its parts what the rules ask. */
    private static final class Reader extends TreePathScanner<Void, Void> {
        final Map<Element, Set<Element>> calls = new HashMap<>();
        private final Trees trees;

        Reader(Trees trees) {
            this.trees = trees;
        }

        @Override
        public Void scan(Tree tree, Void nothing) {
            if (tree != null) {
                check.isTrue("rules 1, 2, 6: no " + tree.getKind() + ": " + tree, !BARRED.contains(tree.getKind()));
            }
            return super.scan(tree, nothing);
        }

        @Override
        public Void visitClass(ClassTree one, Void nothing) {
            Element outside = elementAt(getCurrentPath()).getEnclosingElement();
            Set<Modifier> flags = one.getModifiers().getFlags();
            boolean isInside = outside.getKind() == ElementKind.CLASS;
            check.isTrue("rule 2: a class stands in the file or in its public class",
                    isInside || outside.getKind() == ElementKind.PACKAGE);
            check.isTrue("rules 1, 2: " + one.getSimpleName() + " is final, and the public one or static and private",
                    flags.equals(isInside ? Set.of(Modifier.PRIVATE, Modifier.STATIC, Modifier.FINAL)
                            : Set.of(Modifier.PUBLIC, Modifier.FINAL)));
            check.isTrue("rule 6: nothing comes of another class", one.getExtendsClause() == null
                    && one.getImplementsClause().isEmpty());
            for (Tree member : one.getMembers()) {
                check.isTrue("rule 5: no block beside the methods", !(member instanceof BlockTree));
            }
            return super.visitClass(one, nothing);
        }

        @Override
        public Void visitMethod(MethodTree method, Void nothing) {
            calls.putIfAbsent(elementAt(getCurrentPath()), new LinkedHashSet<>());
            check.isTrue("rule 11: seven parameters at most", method.getParameters().size() <= 7);
            check.isTrue("rule 6: no exception is told", method.getThrows().isEmpty());
            return super.visitMethod(method, nothing);
        }

        @Override
        public Void visitVariable(VariableTree variable, Void nothing) {
            Element element = elementAt(getCurrentPath());
            String type = element.asType().toString();
            boolean isStatic = element.getModifiers().contains(Modifier.STATIC);
            check.isTrue("rule 3: the type of " + variable, TYPES.contains(type) || isOwn(element.asType()));
            check.isTrue("rule 5: what is static is a constant: " + variable,
                    !isStatic || element.getModifiers().contains(Modifier.FINAL) && CONSTANT_TYPES.contains(type));
            return super.visitVariable(variable, nothing);
        }

        @Override
        public Void visitMethodInvocation(MethodInvocationTree call, Void nothing) {
            called(elementAt(new TreePath(getCurrentPath(), call.getMethodSelect())));
            return super.visitMethodInvocation(call, nothing);
        }

        @Override
        public Void visitNewClass(NewClassTree made, Void nothing) {
            check.isTrue("rule 2: a class without a name: " + made, made.getClassBody() == null);
            check.isTrue("rule 12: objects are made with the object alone: " + made, isMadeWithTheObject());
            called(elementAt(getCurrentPath()));
            return super.visitNewClass(made, nothing);
        }

        @Override
        public Void visitNewArray(NewArrayTree made, Void nothing) {
            check.isTrue("rule 12: rows are made with the object alone: " + made, isMadeWithTheObject());
            return super.visitNewArray(made, nothing);
        }

        @Override
        public Void visitTypeCast(TypeCastTree cast, Void nothing) {
            check.isTrue("rule 6: a cast of numbers alone: " + cast,
                    isPrimitive(cast) && isPrimitive(cast.getExpression()));
            return super.visitTypeCast(cast, nothing);
        }

        @Override
        public Void visitBinary(BinaryTree both, Void nothing) {
            check.isTrue("rules 4, 6, 10: numbers alone are joined and compared: " + both,
                    isPrimitive(both.getLeftOperand()) && isPrimitive(both.getRightOperand()));
            return super.visitBinary(both, nothing);
        }

        @Override
        public Void visitForLoop(ForLoopTree loop, Void nothing) {
            check.isTrue("rule 9: a loop with a bound: " + loop, loop.getCondition() != null);
            return super.visitForLoop(loop, nothing);
        }

        @Override
        public Void visitWhileLoop(WhileLoopTree loop, Void nothing) {
            check.isTrue("rule 9: a loop with a bound: " + loop,
                    loop.getCondition().toString().contains("place < size"));
            return super.visitWhileLoop(loop, nothing);
        }

        @Override
        public Void visitAssignment(AssignmentTree one, Void nothing) {
            changes(one.getVariable());
            return super.visitAssignment(one, nothing);
        }

        @Override
        public Void visitCompoundAssignment(CompoundAssignmentTree one, Void nothing) {
            changes(one.getVariable());
            return super.visitCompoundAssignment(one, nothing);
        }

        @Override
        public Void visitUnary(UnaryTree one, Void nothing) {
            if (COUNTING.contains(one.getKind())) {
                changes(one.getExpression());
            }
            return super.visitUnary(one, nothing);
        }

        // a row that is handed on could be changed there; arraycopy only reads what it is given first
        @Override
        public Void visitIdentifier(IdentifierTree name, Void nothing) {
            if (isConstantRow(elementAt(getCurrentPath()))) {
                Tree user = getCurrentPath().getParentPath().getLeaf();
                check.isTrue("rule 5: a constant row is only read: " + user, user instanceof ArrayAccessTree
                        || user instanceof MethodInvocationTree call && call.getMethodSelect().toString().equals(
                                "System.arraycopy") && call.getArguments().get(0) == name);
            }
            return super.visitIdentifier(name, nothing);
        }

        private void changes(ExpressionTree changed) {
            boolean isConstant = changed instanceof ArrayAccessTree place
                    && isConstantRow(elementAt(new TreePath(getCurrentPath(), place.getExpression())));
            check.isTrue("rule 5: a constant row is never changed: " + changed, !isConstant);
        }

        private static boolean isConstantRow(Element element) {
            return element != null && element.getKind() == ElementKind.FIELD
                    && element.getModifiers().contains(Modifier.STATIC) && element.asType().getKind() == TypeKind.ARRAY;
        }

        private void called(Element method) {
            String owner = method.getEnclosingElement().toString();
            if (isOwnName(owner)) {
                calls.computeIfAbsent(openMethod(), open -> new LinkedHashSet<>()).add(method);
            } else {
                String name = owner + "." + method.getSimpleName();
                check.isTrue("rules 4, 13: the library's " + name, LIBRARY.contains(name));
            }
        }

        // what stands beside the methods is made with the object, or once and for all
        private boolean isMadeWithTheObject() {
            Element open = openMethod();
            return open.getKind() == ElementKind.CONSTRUCTOR || open.getKind() == ElementKind.CLASS;
        }

        private Element openMethod() {
            TreePath path = getCurrentPath();
            while (!(path.getLeaf() instanceof MethodTree) && !(path.getLeaf() instanceof ClassTree)) {
                path = path.getParentPath();
            }
            return elementAt(path);
        }

        private Element elementAt(TreePath path) {
            return trees.getElement(path);
        }

        private boolean isPrimitive(Tree part) {
            TypeMirror type = trees.getTypeMirror(new TreePath(getCurrentPath(), part));
            return type.getKind().isPrimitive() && !FRACTIONS.contains(type.getKind());
        }

        private static boolean isOwn(TypeMirror type) {
            return type.getKind() == TypeKind.DECLARED && isOwnName(type.toString());
        }

        private static boolean isOwnName(String name) {
            return name.equals("LooksByMany") || name.startsWith("LooksByMany.");
        }
    }
}
