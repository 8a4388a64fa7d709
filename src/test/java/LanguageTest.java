import com.sun.source.tree.BinaryTree;
import com.sun.source.tree.BlockTree;
import com.sun.source.tree.ClassTree;
import com.sun.source.tree.CompilationUnitTree;
import com.sun.source.tree.LambdaExpressionTree;
import com.sun.source.tree.LiteralTree;
import com.sun.source.tree.MemberReferenceTree;
import com.sun.source.tree.MethodInvocationTree;
import com.sun.source.tree.MethodTree;
import com.sun.source.tree.NewClassTree;
import com.sun.source.tree.SynchronizedTree;
import com.sun.source.tree.ThrowTree;
import com.sun.source.tree.Tree;
import com.sun.source.tree.TryTree;
import com.sun.source.tree.VariableTree;
import com.sun.source.util.JavacTask;
import com.sun.source.util.TreePath;
import com.sun.source.util.TreePathScanner;
import com.sun.source.util.Trees;
import java.io.File;
import java.util.Arrays;
import java.util.HashMap;
import java.util.HashSet;
import java.util.LinkedHashSet;
import java.util.Map;
import java.util.Set;
import javax.lang.model.element.Element;
import javax.lang.model.element.ElementKind;
import javax.lang.model.element.Modifier;
import javax.lang.model.element.TypeElement;
import javax.lang.model.element.VariableElement;
import javax.lang.model.type.TypeKind;
import javax.lang.model.type.TypeMirror;
import javax.tools.JavaCompiler;
import javax.tools.StandardJavaFileManager;
import javax.tools.ToolProvider;

/** The rules of LANGUAGE.md that can be read off the class's own text: 2, 4, 5, 6, 10, 11, of 1 the names, of 7 the divisors. */
public final class LanguageTest {
    private static final Set<String> LIBRARY = new HashSet<>(Arrays.asList(
            "String.length", "String.charAt", "String.isEmpty", "String.equals", "String.indexOf", "String.substring", "String.toCharArray",
            "Math.min", "Math.max", "Math.abs", "Math.floorDiv", "Math.floorMod", "Integer.bitCount", "Integer.compare", "Long.bitCount",
            "Long.compare", "System.arraycopy", "Arrays.copyOf", "Arrays.copyOfRange", "Arrays.fill"));
    private static final Set<String> THROWN = new HashSet<>(Arrays.asList("IllegalStateException", "IllegalArgumentException",
            "IndexOutOfBoundsException", "ArithmeticException", "UnsupportedOperationException", "NoSuchElementException", "RuntimeException"));

    public static void main(String[] args) throws Exception {
        JavaCompiler compiler = ToolProvider.getSystemJavaCompiler();
        if (compiler == null) {
            System.out.println("LanguageTest: this java has no compiler inside, nothing was looked at");
            return;
        }
        try (StandardJavaFileManager files = compiler.getStandardFileManager(null, null, null)) {
            JavacTask task = (JavacTask) compiler.getTask(null, files, null, Arrays.asList("-proc:none"), null,
                    files.getJavaFileObjects(new File("src/main/java/WonderParcels.java")));
            CompilationUnitTree unit = task.parse().iterator().next();
            task.analyze();
            Reader reader = new Reader(Trees.instance(task), unit);
            reader.scan(unit, null);
            reader.lookAtCalls();
        }
        Check.end("LanguageTest");
    }

    /** Reads the class's tree and looks at each part of it. */
    private static final class Reader extends TreePathScanner<Void, Void> {
        private final Trees trees;
        private final CompilationUnitTree unit;
        private final Map<Element, Set<Element>> calls = new HashMap<>();
        private final Map<Element, Integer> depths = new HashMap<>();
        private int classes = 0;

        Reader(Trees trees, CompilationUnitTree unit) {
            this.trees = trees;
            this.unit = unit;
        }

        private void never(String rule, Tree tree) {
            String text = tree.toString();
            Check.is(rule + ": " + text.substring(0, Math.min(80, text.length())), true, false);
        }

        private Element element(Tree tree) {
            return trees.getElement(new TreePath(getCurrentPath(), tree));
        }

        private Element methodRound() {
            for (TreePath path = getCurrentPath(); path != null; path = path.getParentPath()) {
                if (path.getLeaf() instanceof MethodTree) {
                    return trees.getElement(path);
                }
            }
            return null;
        }

        @Override
        public Void visitClass(ClassTree tree, Void none) {
            classes++;
            int fields = 0;
            for (Tree member : tree.getMembers()) {
                if (member instanceof BlockTree) {
                    never("rule 5, no static initialiser", member);
                }
                if (member instanceof VariableTree) {
                    Set<Modifier> flags = ((VariableTree) member).getModifiers().getFlags();
                    boolean isStatic = flags.contains(Modifier.STATIC);
                    Check.is("rule 5, static fields are final: " + member, isStatic && !flags.contains(Modifier.FINAL), false);
                    fields += isStatic ? 0 : 1;
                }
            }
            Check.is("rule 11, some twenty fields: " + tree.getSimpleName(), fields <= 20, true);
            Check.is("rule 2, no local class: " + tree.getSimpleName(), methodRound() == null, true);
            return super.visitClass(tree, none);
        }

        @Override
        public Void visitMethod(MethodTree tree, Void none) {
            Element method = trees.getElement(getCurrentPath());
            calls.computeIfAbsent(method, k -> new LinkedHashSet<>());
            long from = unit.getLineMap().getLineNumber(trees.getSourcePositions().getStartPosition(unit, tree));
            long to = unit.getLineMap().getLineNumber(trees.getSourcePositions().getEndPosition(unit, tree));
            Check.is("rule 11, some sixty lines: " + tree.getName(), to - from < 60, true);
            Check.is("rule 11, seven parameters: " + tree.getName(), tree.getParameters().size() <= 7, true);
            boolean shown = method.getModifiers().contains(Modifier.PUBLIC);
            Check.is("rule 1, a name of the face: " + tree.getName(), !shown && isOfFace(tree.getName().toString()), false);
            return super.visitMethod(tree, none);
        }

        private static boolean isOfFace(String name) {
            return Arrays.stream(WonderParcels.class.getMethods())
                    .anyMatch(m -> m.getDeclaringClass() == WonderParcels.class && m.getName().equals(name));
        }

        @Override
        public Void visitLiteral(LiteralTree tree, Void none) {
            if (tree.getValue() instanceof String) {
                boolean fits = ((String) tree.getValue()).chars().allMatch(c -> c >= 1 && c <= 127);
                Check.is("rule 4, signs 1 to 127: " + tree, fits, true);
            }
            return super.visitLiteral(tree, none);
        }

        @Override
        public Void visitMethodInvocation(MethodInvocationTree tree, Void none) {
            Element called = element(tree.getMethodSelect());
            TypeElement owner = (TypeElement) called.getEnclosingElement();
            if (owner.getQualifiedName().toString().startsWith("WonderParcels")) {
                note(called);
            } else if (called.getKind() != ElementKind.CONSTRUCTOR) {
                String name = owner.getSimpleName() + "." + called.getSimpleName();
                Check.is("rule 4, the library: " + name, LIBRARY.contains(name), true);
            }
            return super.visitMethodInvocation(tree, none);
        }

        @Override
        public Void visitNewClass(NewClassTree tree, Void none) {
            Element made = trees.getElement(getCurrentPath());
            TypeElement owner = (TypeElement) made.getEnclosingElement();
            if (owner.getQualifiedName().toString().startsWith("WonderParcels")) {
                note(made);
            } else {
                Check.is("rule 4, no such object: " + tree, getCurrentPath().getParentPath().getLeaf() instanceof ThrowTree, true);
            }
            return super.visitNewClass(tree, none);
        }

        private void note(Element called) {
            Element caller = methodRound();
            if (caller != null) {
                calls.computeIfAbsent(caller, k -> new LinkedHashSet<>()).add(called);
            }
        }

        @Override
        public Void visitThrow(ThrowTree tree, Void none) {
            boolean fits = false;
            if (tree.getExpression() instanceof NewClassTree) {
                NewClassTree made = (NewClassTree) tree.getExpression();
                boolean written = made.getArguments().isEmpty()
                        || made.getArguments().size() == 1 && made.getArguments().get(0) instanceof LiteralTree;
                fits = written && THROWN.contains(made.getIdentifier().toString());
            }
            Check.is("rule 6, what is thrown: " + tree, fits, true);
            Check.is("rule 6, no throw in a constructor", methodRound().getKind() == ElementKind.CONSTRUCTOR, false);
            return super.visitThrow(tree, none);
        }

        @Override
        public Void visitTry(TryTree tree, Void none) {
            never("the class has nothing to catch", tree);
            return super.visitTry(tree, none);
        }

        @Override
        public Void visitLambdaExpression(LambdaExpressionTree tree, Void none) {
            never("rule 2, no lambda", tree);
            return super.visitLambdaExpression(tree, none);
        }

        @Override
        public Void visitMemberReference(MemberReferenceTree tree, Void none) {
            never("rule 2, no method reference", tree);
            return super.visitMemberReference(tree, none);
        }

        @Override
        public Void visitSynchronized(SynchronizedTree tree, Void none) {
            never("rule 6, no synchronized", tree);
            return super.visitSynchronized(tree, none);
        }

        @Override
        public Void visitBinary(BinaryTree tree, Void none) {
            TypeMirror type = trees.getTypeMirror(getCurrentPath());
            Check.is("rule 10, texts are not joined by +: " + tree, type.getKind() == TypeKind.DECLARED, false);
            if (tree.getKind() == Tree.Kind.DIVIDE || tree.getKind() == Tree.Kind.REMAINDER) {
                String round = getCurrentPath().getParentPath().getLeaf().toString();
                Element divisor = element(tree.getRightOperand());
                Object constant = divisor instanceof VariableElement ? ((VariableElement) divisor).getConstantValue() : null;
                boolean looked = constant != null && !constant.equals(0) || round.startsWith(tree.getRightOperand() + " > 0 ?");
                Check.is("rule 7, a divisor is looked at: " + round, looked, true);
            }
            return super.visitBinary(tree, none);
        }

        /** Rule 11: calls that are no recursion go at most eight deep; some twelve classes. */
        void lookAtCalls() {
            Check.is("rule 11, some twelve classes", classes <= 12, true);
            for (Element method : calls.keySet()) {
                int depth = depthOf(method, new HashSet<>());
                Check.is("rule 11, eight deep: " + method.getEnclosingElement() + "." + method + " goes " + depth, depth <= 8, true);
            }
        }

        private int depthOf(Element method, Set<Element> open) {
            if (depths.containsKey(method)) {
                return depths.get(method);
            }
            if (!calls.containsKey(method) || !open.add(method)) {
                return 0;
            }
            int deepest = 0;
            for (Element called : calls.get(method)) {
                deepest = Math.max(deepest, depthOf(called, open));
            }
            open.remove(method);
            if (open.isEmpty()) {
                depths.put(method, deepest + 1);
            }
            return deepest + 1;
        }
    }
}
