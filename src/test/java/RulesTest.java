import com.sun.source.tree.ArrayAccessTree;
import com.sun.source.tree.BinaryTree;
import com.sun.source.tree.ClassTree;
import com.sun.source.tree.CompilationUnitTree;
import com.sun.source.tree.DoWhileLoopTree;
import com.sun.source.tree.ExpressionTree;
import com.sun.source.tree.ForLoopTree;
import com.sun.source.tree.MethodInvocationTree;
import com.sun.source.tree.MethodTree;
import com.sun.source.tree.NewClassTree;
import com.sun.source.tree.ParenthesizedTree;
import com.sun.source.tree.ThrowTree;
import com.sun.source.tree.Tree;
import com.sun.source.tree.TryTree;
import com.sun.source.tree.TypeCastTree;
import com.sun.source.tree.VariableTree;
import com.sun.source.tree.WhileLoopTree;
import com.sun.source.util.JavacTask;
import com.sun.source.util.TreePath;
import com.sun.source.util.TreePathScanner;
import com.sun.source.util.Trees;
import java.io.IOException;
import java.util.ArrayList;
import java.util.HashMap;
import java.util.HashSet;
import java.util.LinkedHashMap;
import java.util.List;
import java.util.Map;
import java.util.Set;
import javax.lang.model.element.Element;
import javax.lang.model.element.ExecutableElement;
import javax.lang.model.element.Modifier;
import javax.lang.model.element.VariableElement;
import javax.lang.model.type.TypeKind;
import javax.tools.JavaCompiler;
import javax.tools.StandardJavaFileManager;
import javax.tools.ToolProvider;

/** The rules of LANGUAGE.md that can be seen in the tree of the source; each check names its rule. */
public final class RulesTest {

    private static final String SOURCE = "src/main/java/HoneyAccord.java";
    private static final int DEEPEST_CALLS = 8;
    private static final int MOST_PARAMETERS = 7;
    private static final int LONGEST_METHOD = 60;
    private static final int MOST_CLASSES = 12;
    private static final int MOST_FIELDS = 20;
    private static final Set<String> LIBRARY = Set.of("String.length", "String.charAt", "String.indexOf", "Math.min",
        "Math.max", "Object.<init>", "IllegalStateException.<init>", "IllegalArgumentException.<init>",
        "IndexOutOfBoundsException.<init>");

    private static CompilationUnitTree unit;
    private static Trees trees;
    /** Which methods of the class each of its methods calls. */
    private static final Map<Element, Set<Element>> CALLS = new LinkedHashMap<>();
    private static int classes;

    public static void main(String[] args) throws IOException {
        readSource();
        new Reader().scan(unit, null);
        Check.so("rule 11: at most some twelve classes, not " + classes, classes >= 1 && classes <= MOST_CLASSES);
        recursionIsPrivateAndGuarded();
        chainsOfCallsAreShort();
        Check.finish();
    }

    private static void readSource() throws IOException {
        JavaCompiler compiler = ToolProvider.getSystemJavaCompiler();
        try (StandardJavaFileManager files = compiler.getStandardFileManager(null, null, null)) {
            JavacTask task = (JavacTask) compiler.getTask(null, files, null, List.of("-proc:none"), null,
                files.getJavaFileObjects(SOURCE));
            unit = task.parse().iterator().next();
            task.analyze();
            trees = Trees.instance(task);
        }
    }

    private static final class Reader extends TreePathScanner<Void, Void> {
        private Element method;
        private boolean inConstructor;
        private String text = "";

        @Override
        public Void visitClass(ClassTree tree, Void none) {
            classes++;
            int fields = 0;
            for (Tree member : tree.getMembers()) {
                if (member instanceof VariableTree) {
                    fields += isStatic((VariableTree) member) ? 0 : 1;
                    staticFieldsAreConstants((VariableTree) member, new TreePath(getCurrentPath(), member));
                }
            }
            Check.so("rule 11: fields of " + tree.getSimpleName() + ": " + fields, fields <= MOST_FIELDS);
            return super.visitClass(tree, none);
        }

        private boolean isStatic(VariableTree field) {
            return field.getModifiers().getFlags().contains(Modifier.STATIC);
        }

        private void staticFieldsAreConstants(VariableTree field, TreePath path) {
            if (isStatic(field)) {
                Object value = ((VariableElement) trees.getElement(path)).getConstantValue();
                Check.so("rule 5: " + field.getName() + " is a constant", value != null);
            }
        }

        @Override
        public Void visitMethod(MethodTree tree, Void none) {
            method = trees.getElement(getCurrentPath());
            inConstructor = tree.getReturnType() == null;
            text = tree.toString();
            CALLS.put(method, new HashSet<>());
            long from = line(trees.getSourcePositions().getStartPosition(unit, tree));
            long lines = line(trees.getSourcePositions().getEndPosition(unit, tree)) - from + 1;
            Check.so("rule 11: lines of " + named(method) + ": " + lines, lines <= LONGEST_METHOD);
            int takes = tree.getParameters().size();
            Check.so("rule 11: parameters of " + named(method) + ": " + takes, takes <= MOST_PARAMETERS);
            super.visitMethod(tree, none);
            method = null;
            return null;
        }

        private long line(long position) {
            return unit.getLineMap().getLineNumber(position);
        }

        @Override
        public Void visitMethodInvocation(MethodInvocationTree tree, Void none) {
            calls(trees.getElement(getCurrentPath()));
            return super.visitMethodInvocation(tree, none);
        }

        @Override
        public Void visitNewClass(NewClassTree tree, Void none) {
            boolean isThrown = getCurrentPath().getParentPath().getLeaf() instanceof ThrowTree;
            Check.so("rule 12: no call makes an object: " + tree, isThrown || inConstructor || method == null);
            calls(trees.getElement(getCurrentPath()));
            return super.visitNewClass(tree, none);
        }

        private void calls(Element called) {
            if (!isOurs(called)) {
                Check.so("rule 4: " + named(called) + " is in the library that is left", LIBRARY.contains(named(called)));
            } else if (method != null) {
                CALLS.get(method).add(called);
            }
        }

        private boolean isOurs(Element one) {
            Element outermost = one;
            while (outermost.getEnclosingElement().getKind().isClass()) {
                outermost = outermost.getEnclosingElement();
            }
            return outermost.getSimpleName().contentEquals("HoneyAccord");
        }

        @Override
        public Void visitThrow(ThrowTree tree, Void none) {
            Check.notSo("rule 6: no throw in a constructor", inConstructor);
            Check.so("rule 6: what is thrown is made there: " + tree, tree.getExpression() instanceof NewClassTree);
            return super.visitThrow(tree, none);
        }

        @Override
        public Void visitTry(TryTree tree, Void none) {
            Check.so("rule 6: nothing is caught: " + tree, false);
            return super.visitTry(tree, none);
        }

        @Override
        public Void visitArrayAccess(ArrayAccessTree tree, Void none) {
            Check.so("rule 7: " + named(method) + " looks at the length ahead of " + tree,
                text.contains(tree.getExpression() + ".length"));
            return super.visitArrayAccess(tree, none);
        }

        @Override
        public Void visitBinary(BinaryTree tree, Void none) {
            if (tree.getKind() == Tree.Kind.DIVIDE || tree.getKind() == Tree.Kind.REMAINDER) {
                Check.so("rule 7: " + named(method) + " looks at the divisor of " + tree,
                    text.contains(tree.getRightOperand() + " == 0 ?"));
            }
            return super.visitBinary(tree, none);
        }

        @Override
        public Void visitTypeCast(TypeCastTree tree, Void none) {
            boolean isNumber = trees.getTypeMirror(new TreePath(getCurrentPath(), tree.getType())).getKind().isPrimitive();
            Check.so("rule 7: a cast of numbers alone: " + tree, isNumber);
            return super.visitTypeCast(tree, none);
        }

        @Override
        public Void visitForLoop(ForLoopTree tree, Void none) {
            Check.so("rule 9: " + tree.getCondition() + " has a bound", hasBound(tree.getCondition()));
            return super.visitForLoop(tree, none);
        }

        @Override
        public Void visitWhileLoop(WhileLoopTree tree, Void none) {
            Check.so("rule 9: " + tree.getCondition() + " has a bound", hasBound(tree.getCondition()));
            return super.visitWhileLoop(tree, none);
        }

        @Override
        public Void visitDoWhileLoop(DoWhileLoopTree tree, Void none) {
            Check.so("rule 9: " + tree.getCondition() + " has a bound", hasBound(tree.getCondition()));
            return super.visitDoWhileLoop(tree, none);
        }

        /** Whether it is a comparison by size, or one and other things. */
        private boolean hasBound(ExpressionTree condition) {
            if (condition instanceof ParenthesizedTree) {
                return hasBound(((ParenthesizedTree) condition).getExpression());
            }
            if (!(condition instanceof BinaryTree)) {
                return false;
            }
            BinaryTree both = (BinaryTree) condition;
            return both.getKind() == Tree.Kind.LESS_THAN || both.getKind() == Tree.Kind.GREATER_THAN_EQUAL
                || both.getKind() == Tree.Kind.CONDITIONAL_AND
                && (hasBound(both.getLeftOperand()) || hasBound(both.getRightOperand()));
        }
    }

    private static String named(Element method) {
        return method.getEnclosingElement().getSimpleName() + "." + method.getSimpleName();
    }

    // ---- rule 8: recursion

    private static void recursionIsPrivateAndGuarded() {
        for (Element one : CALLS.keySet()) {
            if (CALLS.get(one).stream().anyMatch(called -> reached(called).contains(one))) {
                Check.so("rule 8: " + named(one) + " is private", one.getModifiers().contains(Modifier.PRIVATE));
                boolean carries = ((ExecutableElement) one).getParameters().stream()
                    .anyMatch(p -> p.getSimpleName().contentEquals("depth") && p.asType().getKind() == TypeKind.INT);
                Check.so("rule 8: " + named(one) + " carries its depth", carries);
            }
        }
    }

    /** What is called from a method on, by way of others too, and the method itself. */
    private static Set<Element> reached(Element from) {
        Set<Element> all = new HashSet<>(Set.of(from));
        List<Element> open = new ArrayList<>(List.of(from));
        while (!open.isEmpty()) {
            for (Element called : CALLS.getOrDefault(open.remove(0), Set.of())) {
                if (all.add(called)) {
                    open.add(called);
                }
            }
        }
        return all;
    }

    // ---- rule 11: "calls that are no recursion go at most eight deep"

    /** Methods that call one another count as one call, as it is no recursion that leads to them and away from them. */
    private static void chainsOfCallsAreShort() {
        Map<Element, Set<Element>> from = new HashMap<>();
        for (Element one : CALLS.keySet()) {
            from.put(one, reached(one));
        }
        Map<Element, List<Element>> longest = new HashMap<>();
        for (Element one : CALLS.keySet()) {
            List<Element> chain = longestChain(one, from, longest);
            Check.so("rule 11: " + chain.size() + " calls deep: " + chain, chain.size() <= DEEPEST_CALLS);
        }
    }

    private static List<Element> longestChain(Element start, Map<Element, Set<Element>> from,
            Map<Element, List<Element>> longest) {
        if (!longest.containsKey(start)) {
            List<Element> best = List.of();
            for (Element inside : from.get(start)) {
                boolean isOfTheKnot = inside.equals(start) || from.get(inside).contains(start);
                for (Element called : isOfTheKnot ? CALLS.get(inside) : Set.<Element>of()) {
                    if (from.containsKey(called) && !from.get(called).contains(start)) {
                        List<Element> chain = longestChain(called, from, longest);
                        best = chain.size() > best.size() ? chain : best;
                    }
                }
            }
            List<Element> whole = new ArrayList<>(List.of(start));
            whole.addAll(best);
            longest.put(start, whole);
        }
        return longest.get(start);
    }
}
