import com.sun.source.tree.ArrayAccessTree;
import com.sun.source.tree.AssignmentTree;
import com.sun.source.tree.ClassTree;
import com.sun.source.tree.CompoundAssignmentTree;
import com.sun.source.tree.CompilationUnitTree;
import com.sun.source.tree.DoWhileLoopTree;
import com.sun.source.tree.EnhancedForLoopTree;
import com.sun.source.tree.ForLoopTree;
import com.sun.source.tree.IdentifierTree;
import com.sun.source.tree.LambdaExpressionTree;
import com.sun.source.tree.MemberReferenceTree;
import com.sun.source.tree.MemberSelectTree;
import com.sun.source.tree.MethodInvocationTree;
import com.sun.source.tree.MethodTree;
import com.sun.source.tree.NewArrayTree;
import com.sun.source.tree.NewClassTree;
import com.sun.source.tree.Tree;
import com.sun.source.tree.UnaryTree;
import com.sun.source.tree.VariableTree;
import com.sun.source.tree.WhileLoopTree;
import com.sun.source.util.JavacTask;
import com.sun.source.util.TreePath;
import com.sun.source.util.TreePathScanner;
import com.sun.source.util.Trees;
import java.io.IOException;
import java.nio.file.Path;
import java.util.ArrayDeque;
import java.util.Deque;
import java.util.HashSet;
import java.util.LinkedHashMap;
import java.util.LinkedHashSet;
import java.util.Map;
import java.util.Set;
import javax.lang.model.element.Element;
import javax.lang.model.element.ElementKind;
import javax.lang.model.element.ExecutableElement;
import javax.lang.model.element.Modifier;
import javax.lang.model.type.ArrayType;
import javax.lang.model.type.TypeKind;
import javax.lang.model.type.TypeMirror;
import javax.tools.JavaCompiler;
import javax.tools.StandardJavaFileManager;
import javax.tools.ToolProvider;

/** Rules of LANGUAGE.md that need the program's tree: who calls whom, what is made where, of which types all is. */
public final class WheelRideCallsTest {
    private static final Check CHECK = new Check();
    private static final Set<String> LIBRARY = Set.of("java.lang.Math.abs", "java.lang.Math.max", "java.lang.Math.min",
        "java.lang.Integer.bitCount", "java.lang.System.arraycopy");
    private static final int DEEPEST = 8, MOST_OPEN = 300, MOST_PARAMETERS = 7, MOST_FIELDS = 20;

    private final Map<ExecutableElement, Set<ExecutableElement>> calls = new LinkedHashMap<>();

    public static void main(String[] args) throws IOException {
        JavaCompiler compiler = ToolProvider.getSystemJavaCompiler();
        try (StandardJavaFileManager files = compiler.getStandardFileManager(null, null, null)) {
            Path source = Path.of(System.getProperty("wheelride.source", "src/main/java/WheelRide.java"));
            JavacTask task = (JavacTask) compiler.getTask(null, files, null, null, null,
                files.getJavaFileObjects(source));
            Iterable<? extends CompilationUnitTree> units = task.parse();
            task.analyze();
            WheelRideCallsTest test = new WheelRideCallsTest();
            for (CompilationUnitTree unit : units) {
                test.new Reader(Trees.instance(task)).scan(unit, null);
            }
            test.recursion();
            test.depth();
        }
        CHECK.end();
    }

    private static String nameOf(Element e) {
        return e.getEnclosingElement() + "." + e.getSimpleName();
    }

    private static boolean isStatic(Element e) {
        return e.getModifiers().contains(Modifier.STATIC);
    }

    private static boolean isOwn(Element e) {
        return e.getEnclosingElement().toString().startsWith("WheelRide");
    }

    /** Rule 8: who can come to be called again from within itself is private and carries a depth. */
    private void recursion() {
        for (ExecutableElement m : calls.keySet()) {
            if (reachedFrom(m).contains(m)) {
                CHECK.holds("rule 8: " + nameOf(m) + " is private", m.getModifiers().contains(Modifier.PRIVATE));
                CHECK.holds("rule 8: " + nameOf(m) + " carries a depth", m.getParameters().stream()
                    .anyMatch(p -> p.getSimpleName().contentEquals("depth")));
            }
        }
    }

    private Set<ExecutableElement> reachedFrom(ExecutableElement m) {
        Set<ExecutableElement> seen = new HashSet<>();
        Deque<ExecutableElement> open = new ArrayDeque<>(calls.get(m));
        while (!open.isEmpty()) {
            ExecutableElement next = open.pop();
            if (seen.add(next)) {
                open.addAll(calls.getOrDefault(next, Set.of()));
            }
        }
        return seen;
    }

    /** Rule 11: calls that are no recursion, those of the library among them. */
    private void depth() {
        Map<ExecutableElement, Integer> known = new LinkedHashMap<>();
        for (ExecutableElement m : calls.keySet()) {
            int deep = depthOf(m, known, new LinkedHashSet<>());
            CHECK.holds("rule 11: " + nameOf(m) + " goes " + deep + " deep", deep <= DEEPEST);
        }
    }

    private int depthOf(ExecutableElement m, Map<ExecutableElement, Integer> known, Set<ExecutableElement> open) {
        if (known.containsKey(m)) {
            return known.get(m);
        }
        if (!open.add(m) || open.size() > MOST_OPEN) {
            return 0;
        }
        int deepest = 0;
        for (ExecutableElement next : calls.getOrDefault(m, Set.of())) {
            deepest = Math.max(deepest, depthOf(next, known, open));
        }
        open.remove(m);
        known.put(m, deepest + 1);
        return deepest + 1;
    }

    /** Walks through the program once; method is null within what stands in a field's own line. */
    private final class Reader extends TreePathScanner<Void, Void> {
        private final Trees trees;
        private ExecutableElement method;
        private int loops;

        Reader(Trees trees) {
            this.trees = trees;
        }

        private Element here() {
            return trees.getElement(getCurrentPath());
        }

        private String where() {
            return method == null ? "a field" : nameOf(method);
        }

        private boolean isMaking() {
            return method == null || method.getKind() == ElementKind.CONSTRUCTOR;
        }

        @Override
        public Void visitClass(ClassTree tree, Void none) {
            Element e = here();
            boolean isOuter = e.getEnclosingElement().getKind() == ElementKind.PACKAGE;
            CHECK.holds("rule 2: " + e + " is the public class, or a static one right inside it",
                isOuter || isStatic(e) && e.getEnclosingElement().toString().equals("WheelRide"));
            int fields = 0;
            for (Element member : e.getEnclosedElements()) {
                boolean isField = member.getKind() == ElementKind.FIELD;
                fields += isField && !isStatic(member) ? 1 : 0;
            }
            CHECK.holds("rule 11: " + e + " has " + fields + " fields", fields <= MOST_FIELDS);
            return super.visitClass(tree, none);
        }

        @Override
        public Void visitMethod(MethodTree tree, Void none) {
            method = (ExecutableElement) here();
            calls.computeIfAbsent(method, m -> new LinkedHashSet<>());
            CHECK.holds("rule 11: parameters of " + nameOf(method), tree.getParameters().size() <= MOST_PARAMETERS);
            super.visitMethod(tree, none);
            method = null;
            return null;
        }

        @Override
        public Void visitMethodInvocation(MethodInvocationTree tree, Void none) {
            ExecutableElement called = (ExecutableElement) here();
            boolean isSuper = called.getKind() == ElementKind.CONSTRUCTOR;
            if (method != null && !isSuper) {
                calls.computeIfAbsent(method, m -> new LinkedHashSet<>()).add(called);
            }
            CHECK.holds("rule 4: " + nameOf(called) + " is of the library",
                isSuper || isOwn(called) || LIBRARY.contains(nameOf(called)));
            CHECK.holds("rule 12: what is made calls " + nameOf(called) + " in " + where(), isSuper || !isMaking());
            return super.visitMethodInvocation(tree, none);
        }

        @Override
        public Void visitVariable(VariableTree tree, Void none) {
            Element e = here();
            CHECK.holds("rule 3: type of " + e + " in " + where(), isAllowed(e.asType()));
            if (e.getKind() == ElementKind.FIELD && isStatic(e)) {
                CHECK.holds("rule 5: " + e + " is final", e.getModifiers().contains(Modifier.FINAL));
                CHECK.holds("rule 5: " + e + " is written out", isWrittenOut(tree, e.asType().getKind() == TypeKind.ARRAY));
            }
            return super.visitVariable(tree, none);
        }

        private boolean isWrittenOut(VariableTree tree, boolean isRow) {
            Tree told = tree.getInitializer();
            return isRow ? told instanceof NewArrayTree row && row.getInitializers() != null : told != null;
        }

        private boolean isAllowed(TypeMirror type) {
            if (type instanceof ArrayType row) {
                TypeMirror item = row.getComponentType();
                boolean isPlain = item.getKind() != TypeKind.ARRAY;
                return isPlain ? isAllowed(item) : ((ArrayType) item).getComponentType().getKind().isPrimitive();
            }
            return type.getKind().isPrimitive() || type.toString().startsWith("WheelRide.");
        }

        @Override
        public Void visitAssignment(AssignmentTree tree, Void none) {
            changed(tree.getVariable());
            return super.visitAssignment(tree, none);
        }

        @Override
        public Void visitCompoundAssignment(CompoundAssignmentTree tree, Void none) {
            changed(tree.getVariable());
            return super.visitCompoundAssignment(tree, none);
        }

        @Override
        public Void visitUnary(UnaryTree tree, Void none) {
            switch (tree.getKind()) {
                case PREFIX_INCREMENT, PREFIX_DECREMENT, POSTFIX_INCREMENT, POSTFIX_DECREMENT:
                    changed(tree.getExpression());
                    break;
                default:
                    break;
            }
            return super.visitUnary(tree, none);
        }

        private void changed(Tree variable) {
            if (variable instanceof ArrayAccessTree item) {
                Element row = trees.getElement(new TreePath(getCurrentPath(), item.getExpression()));
                CHECK.holds("rule 5: " + row + " is changed in " + where(), row == null || !isStatic(row));
            }
        }

        @Override
        public Void visitNewClass(NewClassTree tree, Void none) {
            CHECK.holds("rule 2: no body of its own in " + where(), tree.getClassBody() == null);
            made();
            return super.visitNewClass(tree, none);
        }

        @Override
        public Void visitNewArray(NewArrayTree tree, Void none) {
            made();
            return super.visitNewArray(tree, none);
        }

        /** Stricter than rule 12: all is made with the object, so that no run of calls can fill the room. */
        private void made() {
            CHECK.holds("rule 12: something is made in " + where(), isMaking());
            CHECK.holds("rule 12: a loop within a loop makes something in " + where(), loops <= 1);
        }

        @Override
        public Void visitLambdaExpression(LambdaExpressionTree tree, Void none) {
            CHECK.holds("rule 2: no lambda in " + where(), false);
            return super.visitLambdaExpression(tree, none);
        }

        @Override
        public Void visitMemberReference(MemberReferenceTree tree, Void none) {
            CHECK.holds("rule 2: no method reference in " + where(), false);
            return super.visitMemberReference(tree, none);
        }

        @Override
        public Void visitIdentifier(IdentifierTree tree, Void none) {
            handedOut(tree.getName().contentEquals("this"));
            return super.visitIdentifier(tree, none);
        }

        /** Rule 12: the object is named in a constructor for its own fields alone. */
        private void handedOut(boolean isThis) {
            if (isThis && isMaking()) {
                Tree around = getCurrentPath().getParentPath().getLeaf();
                CHECK.holds("rule 12: the object is handed out in " + where(), around instanceof MemberSelectTree);
            }
        }

        @Override
        public Void visitForLoop(ForLoopTree tree, Void none) {
            CHECK.holds("rule 9: a loop of " + where() + " has a condition", tree.getCondition() != null);
            return within(() -> super.visitForLoop(tree, none));
        }

        @Override
        public Void visitEnhancedForLoop(EnhancedForLoopTree tree, Void none) {
            return within(() -> super.visitEnhancedForLoop(tree, none));
        }

        @Override
        public Void visitWhileLoop(WhileLoopTree tree, Void none) {
            return within(() -> super.visitWhileLoop(tree, none));
        }

        @Override
        public Void visitDoWhileLoop(DoWhileLoopTree tree, Void none) {
            return within(() -> super.visitDoWhileLoop(tree, none));
        }

        private Void within(Runnable body) {
            loops++;
            body.run();
            loops--;
            return null;
        }
    }
}
