import com.sun.source.tree.AssertTree;
import com.sun.source.tree.CatchTree;
import com.sun.source.tree.ClassTree;
import com.sun.source.tree.CompilationUnitTree;
import com.sun.source.tree.DoWhileLoopTree;
import com.sun.source.tree.ExpressionTree;
import com.sun.source.tree.ForLoopTree;
import com.sun.source.tree.ImportTree;
import com.sun.source.tree.LambdaExpressionTree;
import com.sun.source.tree.MemberReferenceTree;
import com.sun.source.tree.MethodInvocationTree;
import com.sun.source.tree.MethodTree;
import com.sun.source.tree.NewArrayTree;
import com.sun.source.tree.NewClassTree;
import com.sun.source.tree.SynchronizedTree;
import com.sun.source.tree.ThrowTree;
import com.sun.source.tree.Tree;
import com.sun.source.tree.TryTree;
import com.sun.source.tree.VariableTree;
import com.sun.source.tree.WhileLoopTree;
import com.sun.source.util.JavacTask;
import com.sun.source.util.TreePath;
import com.sun.source.util.TreePathScanner;
import com.sun.source.util.Trees;
import java.io.File;
import java.io.IOException;
import java.util.List;
import java.util.Map;
import java.util.Set;
import java.util.TreeMap;
import java.util.TreeSet;
import javax.lang.model.element.Element;
import javax.lang.model.element.Modifier;
import javax.tools.JavaCompiler;
import javax.tools.StandardJavaFileManager;
import javax.tools.ToolProvider;

/** LANGUAGE.md: the rules that can be read off the source, by their numbers. */
public final class LanguageTest {
    private static final File SOURCE = new File("src/main/java/AffixWorks.java");
    private static final String FACE = "AffixWorks";

    private static final int MOST_CLASSES = 12;
    private static final int MOST_FIELDS = 20;
    private static final int MOST_PARAMETERS = 7;
    private static final int MOST_LINES = 60;
    private static final int MOST_DEEP = 8;

    private static final Set<String> EXCEPTIONS = Set.of("IllegalStateException",
            "IllegalArgumentException", "IndexOutOfBoundsException", "ArithmeticException",
            "UnsupportedOperationException", "NoSuchElementException", "RuntimeException");
    // Of what rule 4 lists, what the class uses; more may be added from there.
    private static final Set<String> LIBRARY = Set.of("java.lang.Math.min", "java.lang.Math.max",
            "java.lang.System.arraycopy", "java.lang.Object.<init>");
    private static final String NUMBER = "(int|long|short|byte|char|double|float)";

    private static final Check CHECK = new Check("LanguageTest");

    private final CompilationUnitTree unit;
    private final Trees trees;
    private final Set<String> faceNames = new TreeSet<>();
    private final Set<String> classNames = new TreeSet<>();
    private final Map<String, Set<String>> calls = new TreeMap<>();

    private LanguageTest(CompilationUnitTree unit, Trees trees) {
        this.unit = unit;
        this.trees = trees;
    }

    public static void main(String[] args) throws IOException {
        JavaCompiler compiler = ToolProvider.getSystemJavaCompiler();
        try (StandardJavaFileManager files = compiler.getStandardFileManager(null, null, null)) {
            JavacTask task = (JavacTask) compiler.getTask(null, files, null, List.of("-proc:none"),
                    null, files.getJavaFileObjects(SOURCE));
            CompilationUnitTree unit = task.parse().iterator().next();
            task.analyze();
            new LanguageTest(unit, Trees.instance(task)).check();
        }
        CHECK.end();
    }

    private void check() throws IOException {
        CHECK.is("rule 3: a sign is not 1 to 127", false,
                unit.getSourceFile().getCharContent(true).chars().anyMatch(sign -> sign > 127));
        new Names().scan(unit, null);
        new Rules().scan(unit, null);
        CHECK.is("rule 11: some twelve classes", true, classNames.size() <= MOST_CLASSES);
        for (String method : calls.keySet()) {
            CHECK.is("rule 8 and 11: " + method + " calls itself, or goes too deep", false,
                    depth(method, 1) > MOST_DEEP);
        }
    }

    /** How deep the calls of a method go; no deeper is looked than is needed to refuse it. */
    private int depth(String method, int level) {
        int deepest = level;
        for (String called : calls.getOrDefault(method, Set.of())) {
            if (deepest <= MOST_DEEP) {
                deepest = Math.max(deepest, depth(called, level + 1));
            }
        }
        return deepest;
    }

    private final class Names extends TreePathScanner<Void, Void> {
        @Override
        public Void visitClass(ClassTree tree, Void none) {
            classNames.add(tree.getSimpleName().toString());
            return super.visitClass(tree, none);
        }

        @Override
        public Void visitMethod(MethodTree tree, Void none) {
            if (tree.getModifiers().getFlags().contains(Modifier.PUBLIC)) {
                faceNames.add(tree.getName().toString());
            }
            return super.visitMethod(tree, none);
        }
    }

    private final class Rules extends TreePathScanner<Void, Void> {
        private String method = "";

        private void fault(int rule, String what, Tree tree) {
            long at = trees.getSourcePositions().getStartPosition(unit, tree);
            CHECK.same("rule " + rule + ", line " + unit.getLineMap().getLineNumber(at), what, "kept");
        }

        private boolean isInside(Class<? extends Tree> kind) {
            return kind.isInstance(getCurrentPath().getParentPath().getLeaf());
        }

        // ---- classes, fields and methods

        @Override
        public Void visitClass(ClassTree tree, Void none) {
            Set<Modifier> flags = tree.getModifiers().getFlags();
            boolean isFace = tree.getSimpleName().contentEquals(FACE);
            if (isFace ? !isInside(CompilationUnitTree.class) : !isInside(ClassTree.class)) {
                fault(2, "a class at another place", tree);
            }
            if (!isFace && (!flags.contains(Modifier.STATIC) || flags.contains(Modifier.PUBLIC)
                    || flags.contains(Modifier.PROTECTED))) {
                fault(1, "a class inside that is not static, or open", tree);
            }
            if (tree.getMembers().stream().filter(this::isOwnField).count() > MOST_FIELDS) {
                fault(11, "more than some twenty fields", tree);
            }
            if (tree.getMembers().stream().anyMatch(member -> member.getKind() == Tree.Kind.BLOCK)) {
                fault(5, "a block of initialisers", tree);
            }
            String outside = method;
            method = FACE + "." + tree.getSimpleName();
            super.visitClass(tree, none);
            method = outside;
            return none;
        }

        private boolean isOwnField(Tree member) {
            return member instanceof VariableTree
                    && !((VariableTree) member).getModifiers().getFlags().contains(Modifier.STATIC);
        }

        @Override
        public Void visitVariable(VariableTree tree, Void none) {
            Set<Modifier> flags = tree.getModifiers().getFlags();
            checkType(String.valueOf(tree.getType()), tree);
            if (flags.contains(Modifier.STATIC) && !flags.contains(Modifier.FINAL)) {
                fault(5, "a static field that is not final", tree);
            }
            return super.visitVariable(tree, none);
        }

        private void checkType(String type, Tree tree) {
            String element = type.endsWith("[]") ? type.substring(0, type.length() - 2) : type;
            if (!element.matches(NUMBER + "(\\[\\])?") && !element.matches("void|boolean|String")
                    && !classNames.contains(element)) {
                fault(3, "a type that is not used so far: " + type, tree);
            }
        }

        @Override
        public Void visitMethod(MethodTree tree, Void none) {
            Set<Modifier> flags = tree.getModifiers().getFlags();
            String name = tree.getName().toString();
            if (!flags.contains(Modifier.PUBLIC) && faceNames.contains(name)
                    && tree.getReturnType() != null) {
                fault(1, "a method of its own with the public name " + name, tree);
            }
            if (tree.getReturnType() != null) {
                checkType(tree.getReturnType().toString(), tree);
            }
            if (tree.getParameters().size() > MOST_PARAMETERS) {
                fault(11, "more than seven parameters", tree);
            }
            if (lines(tree) > MOST_LINES) {
                fault(11, "more than some sixty lines", tree);
            }
            String outside = method;
            method = nameOf(trees.getElement(getCurrentPath()));
            super.visitMethod(tree, none);
            method = outside;
            return none;
        }

        private long lines(MethodTree tree) {
            long from = trees.getSourcePositions().getStartPosition(unit, tree);
            long to = trees.getSourcePositions().getEndPosition(unit, tree);
            return to < 0 ? 0 : unit.getLineMap().getLineNumber(to) - unit.getLineMap().getLineNumber(from) + 1;
        }

        // ---- the library, and calls of its own

        private String nameOf(Element called) {
            return called.getEnclosingElement() + "." + called;
        }

        private void checkCall(Tree tree) {
            Element called = trees.getElement(getCurrentPath());
            String owner = called.getEnclosingElement().toString();
            if (owner.equals(FACE) || owner.startsWith(FACE + ".")) {
                calls.computeIfAbsent(method, key -> new TreeSet<>()).add(nameOf(called));
            } else if (!LIBRARY.contains(owner + "." + called.getSimpleName())
                    && !EXCEPTIONS.contains(called.getEnclosingElement().getSimpleName().toString())) {
                fault(4, "a call of the library that is not used so far: " + owner + "." + called, tree);
            }
        }

        @Override
        public Void visitMethodInvocation(MethodInvocationTree tree, Void none) {
            checkCall(tree);
            return super.visitMethodInvocation(tree, none);
        }

        @Override
        public Void visitNewClass(NewClassTree tree, Void none) {
            checkCall(tree);
            if (!isInside(ThrowTree.class)) {
                checkIsMadeOnce(tree);
            }
            return super.visitNewClass(tree, none);
        }

        @Override
        public Void visitNewArray(NewArrayTree tree, Void none) {
            checkIsMadeOnce(tree);
            return super.visitNewArray(tree, none);
        }

        /** All calls of a run live in one room: none of them makes anything but an exception. */
        private void checkIsMadeOnce(Tree tree) {
            MethodTree made = methodAround();
            if (made != null && made.getReturnType() != null) {
                fault(12, "an object or a row that is made by a call", tree);
            }
        }

        /** Null for what stands in a field. */
        private MethodTree methodAround() {
            for (TreePath path = getCurrentPath(); path != null; path = path.getParentPath()) {
                if (path.getLeaf() instanceof MethodTree) {
                    return (MethodTree) path.getLeaf();
                }
            }
            return null;
        }

        @Override
        public Void visitImport(ImportTree tree, Void none) {
            fault(4, "an import", tree);
            return super.visitImport(tree, none);
        }

        // ---- exceptions

        @Override
        public Void visitThrow(ThrowTree tree, Void none) {
            if (!tree.toString().matches("throw new \\w+\\((\"[^\"]*\")?\\);?")) {
                fault(6, "not throw new E() or E(a text)", tree);
            }
            MethodTree thrower = methodAround();
            if (thrower == null || thrower.getReturnType() == null) {
                fault(6, "a throw in a constructor", tree);
            }
            return super.visitThrow(tree, none);
        }

        @Override
        public Void visitTry(TryTree tree, Void none) {
            if (tree.getFinallyBlock() != null || !tree.getResources().isEmpty()) {
                fault(6, "finally, or try with resources", tree);
            }
            return super.visitTry(tree, none);
        }

        // The class answers no call by catching; what the machine throws least of all.
        @Override
        public Void visitCatch(CatchTree tree, Void none) {
            fault(6, "a catch", tree);
            return super.visitCatch(tree, none);
        }

        // ---- what is left out of the language

        @Override
        public Void visitLambdaExpression(LambdaExpressionTree tree, Void none) {
            fault(2, "a lambda", tree);
            return super.visitLambdaExpression(tree, none);
        }

        @Override
        public Void visitMemberReference(MemberReferenceTree tree, Void none) {
            fault(2, "a method reference", tree);
            return super.visitMemberReference(tree, none);
        }

        @Override
        public Void visitSynchronized(SynchronizedTree tree, Void none) {
            fault(6, "synchronized", tree);
            return super.visitSynchronized(tree, none);
        }

        @Override
        public Void visitAssert(AssertTree tree, Void none) {
            fault(6, "assert", tree);
            return super.visitAssert(tree, none);
        }

        // ---- loops

        /** A loop's end is seen if its condition holds a counter, or the like, against a bound. */
        private void checkLoop(ExpressionTree condition, Tree tree) {
            if (condition == null || !condition.toString().matches(".*[<>].*")) {
                fault(9, "a loop without a bound in its condition", tree);
            }
        }

        @Override
        public Void visitForLoop(ForLoopTree tree, Void none) {
            checkLoop(tree.getCondition(), tree);
            return super.visitForLoop(tree, none);
        }

        @Override
        public Void visitWhileLoop(WhileLoopTree tree, Void none) {
            checkLoop(tree.getCondition(), tree);
            return super.visitWhileLoop(tree, none);
        }

        @Override
        public Void visitDoWhileLoop(DoWhileLoopTree tree, Void none) {
            checkLoop(tree.getCondition(), tree);
            return super.visitDoWhileLoop(tree, none);
        }
    }
}
