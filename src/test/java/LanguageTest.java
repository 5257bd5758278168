import com.sun.source.tree.AssertTree;
import com.sun.source.tree.BlockTree;
import com.sun.source.tree.ClassTree;
import com.sun.source.tree.CompilationUnitTree;
import com.sun.source.tree.ImportTree;
import com.sun.source.tree.LambdaExpressionTree;
import com.sun.source.tree.MemberReferenceTree;
import com.sun.source.tree.MethodInvocationTree;
import com.sun.source.tree.MethodTree;
import com.sun.source.tree.NewArrayTree;
import com.sun.source.tree.NewClassTree;
import com.sun.source.tree.SynchronizedTree;
import com.sun.source.tree.ThrowTree;
import com.sun.source.tree.Tree;
import com.sun.source.tree.TryTree;
import com.sun.source.tree.VariableTree;
import com.sun.source.util.JavacTask;
import com.sun.source.util.SourcePositions;
import com.sun.source.util.TreePath;
import com.sun.source.util.TreePathScanner;
import com.sun.source.util.Trees;
import java.nio.file.Path;
import java.util.Arrays;
import java.util.HashSet;
import java.util.LinkedHashMap;
import java.util.List;
import java.util.Map;
import java.util.Set;
import java.util.TreeSet;
import javax.lang.model.element.Element;
import javax.lang.model.element.ElementKind;
import javax.lang.model.element.Modifier;
import javax.tools.JavaCompiler;
import javax.tools.StandardJavaFileManager;
import javax.tools.ToolProvider;

/** The rules of ../shared/LANGUAGE.md that can be counted, by their numbers there. */
public final class LanguageTest {
    private static final Set<String> FACE = new HashSet<>(Arrays.asList("register", "put", "status", "load", "write",
        "read", "key", "want", "tick", "step", "waits", "told", "sum"));
    private static final Set<String> LIBRARY = new HashSet<>(Arrays.asList("Math.abs", "Math.max", "Math.min",
        "Math.floorDiv", "Math.floorMod", "Arrays.fill", "System.arraycopy"));
    private static final Set<String> CONSTANTS = new HashSet<>(Arrays.asList("int", "long", "boolean", "char",
        "String", "int[]", "long[]", "char[]", "byte[]"));
    private static final Set<String> THROWN = new HashSet<>(Arrays.asList("IllegalArgumentException",
        "IndexOutOfBoundsException"));

    public static void main(String[] args) throws Exception {
        Rules rules = new Rules();
        JavaCompiler compiler = ToolProvider.getSystemJavaCompiler();
        try (StandardJavaFileManager files = compiler.getStandardFileManager(null, null, null)) {
            JavacTask task = (JavacTask) compiler.getTask(null, files, null, Arrays.asList("-proc:none"), null,
                files.getJavaFileObjects(Path.of("src/main/java/MainframeCore.java")));
            Iterable<? extends CompilationUnitTree> units = task.parse();
            task.analyze();
            rules.trees = Trees.instance(task);
            for (CompilationUnitTree unit : units) {
                rules.unit = unit;
                rules.scan(unit, null);
            }
        }
        rules.whole();
        Rig.end();
    }

    /** Goes through the source once; what calls what is kept for the depth. */
    private static final class Rules extends TreePathScanner<Void, Void> {
        private final Map<Element, Set<Element>> calls = new LinkedHashMap<>();
        private final Set<String> imports = new TreeSet<>();
        private Trees trees;
        private CompilationUnitTree unit;
        private Element method;
        private int classes;

        private void never(String rule, Tree tree) {
            Rig.part(rule);
            Rig.due("line " + line(tree, false) + ": " + tree, "is there", "is not there");
        }

        private void always(String rule, Tree tree, boolean holds) {
            Rig.part(rule);
            Rig.due("line " + line(tree, false), holds, true);
        }

        private long line(Tree tree, boolean last) {
            SourcePositions places = trees.getSourcePositions();
            long at = last ? places.getEndPosition(unit, tree) : places.getStartPosition(unit, tree);
            return at < 0 ? 0 : unit.getLineMap().getLineNumber(at);
        }

        @Override
        public Void visitImport(ImportTree tree, Void none) {
            imports.add(tree.getQualifiedIdentifier().toString());
            return super.visitImport(tree, none);
        }

        @Override
        public Void visitClass(ClassTree tree, Void none) {
            classes++;
            int fields = 0;
            for (Tree member : tree.getMembers()) {
                always("rule 5: no static initialiser", member,
                    !(member instanceof BlockTree) || !((BlockTree) member).isStatic());
                boolean isField = member instanceof VariableTree;
                fields += isField && !isStatic((VariableTree) member) ? 1 : 0;
                if (isField && isStatic((VariableTree) member)) {
                    constant((VariableTree) member);
                }
            }
            always("rule 11: fields of a class", tree, fields <= 20);
            boolean outer = getCurrentPath().getParentPath().getLeaf() == unit;
            always("rules 1, 2: classes inside", tree, outer || tree.getModifiers().getFlags().containsAll(
                Arrays.asList(Modifier.PRIVATE, Modifier.STATIC)));
            return super.visitClass(tree, none);
        }

        private static boolean isStatic(VariableTree tree) {
            return tree.getModifiers().getFlags().contains(Modifier.STATIC);
        }

        private void constant(VariableTree tree) {
            always("rule 5: static fields are final constants", tree,
                tree.getModifiers().getFlags().contains(Modifier.FINAL)
                && CONSTANTS.contains(tree.getType().toString()) && tree.getInitializer() != null);
        }

        @Override
        public Void visitMethod(MethodTree tree, Void none) {
            Element before = method;
            method = trees.getElement(getCurrentPath());
            calls.put(method, new HashSet<>());
            boolean isPublic = tree.getModifiers().getFlags().contains(Modifier.PUBLIC);
            always("rule 1: no private method bears a public name", tree,
                isPublic || !FACE.contains(tree.getName().toString()));
            always("rule 11: parameters", tree, tree.getParameters().size() <= 7);
            always("rule 11: methods stay short", tree, line(tree, true) - line(tree, false) < 60);
            super.visitMethod(tree, none);
            method = before;
            return null;
        }

        @Override
        public Void visitMethodInvocation(MethodInvocationTree tree, Void none) {
            Element called = trees.getElement(new TreePath(getCurrentPath(), tree.getMethodSelect()));
            String owner = called.getEnclosingElement().toString();
            if (owner.startsWith("MainframeCore")) {
                calls.get(method).add(called);
            } else if (called.getKind() == ElementKind.METHOD) {
                String name = called.getEnclosingElement().getSimpleName() + "." + called.getSimpleName();
                always("rule 4: the library: " + name, tree, LIBRARY.contains(name));
            }
            return super.visitMethodInvocation(tree, none);
        }

        @Override
        public Void visitThrow(ThrowTree tree, Void none) {
            boolean made = tree.getExpression() instanceof NewClassTree;
            String name = made ? ((NewClassTree) tree.getExpression()).getIdentifier().toString() : "";
            always("rule 6: what is thrown", tree, THROWN.contains(name));
            always("rule 6: no throw in a constructor", tree, method.getKind() == ElementKind.METHOD);
            return super.visitThrow(tree, none);
        }

        /** What is made once cannot fill the room, whatever is called. */
        @Override
        public Void visitNewClass(NewClassTree tree, Void none) {
            always("rule 2: no anonymous class", tree, tree.getClassBody() == null);
            boolean thrown = getCurrentPath().getParentPath().getLeaf() instanceof ThrowTree;
            always("rule 12: calls make nothing", tree, thrown || isMadeOnce());
            return super.visitNewClass(tree, none);
        }

        @Override
        public Void visitNewArray(NewArrayTree tree, Void none) {
            always("rule 12: calls make nothing", tree, isMadeOnce());
            return super.visitNewArray(tree, none);
        }

        private boolean isMadeOnce() {
            return method == null || method.getKind() == ElementKind.CONSTRUCTOR;
        }

        @Override
        public Void visitLambdaExpression(LambdaExpressionTree tree, Void none) {
            never("rule 2: no lambda", tree);
            return null;
        }

        @Override
        public Void visitMemberReference(MemberReferenceTree tree, Void none) {
            never("rule 2: no method reference", tree);
            return null;
        }

        @Override
        public Void visitTry(TryTree tree, Void none) {
            never("rule 6: no call throws inside", tree);
            return null;
        }

        @Override
        public Void visitSynchronized(SynchronizedTree tree, Void none) {
            never("rule 6: no synchronized", tree);
            return null;
        }

        @Override
        public Void visitAssert(AssertTree tree, Void none) {
            never("rule 6: no assert", tree);
            return null;
        }

        private void whole() {
            Rig.part("rule 4: imports");
            Rig.due("imports", imports.toString(), List.of("java.util.Arrays").toString());
            Rig.part("rule 11: classes of the file");
            Rig.due("at most twelve: " + classes, classes <= 12, true);
            Rig.part("rules 8, 11: calls go at most eight deep, and none is a recursion");
            for (Element each : calls.keySet()) {
                int depth = depth(each, 0);
                Rig.due(each.getEnclosingElement() + "." + each + " goes " + depth + " deep", depth <= 8, true);
            }
        }

        /** A recursion would go on for ever, so it is cut off far beyond what is allowed. */
        private int depth(Element each, int above) {
            int below = 0;
            if (above < 20) {
                for (Element called : calls.getOrDefault(each, Set.of())) {
                    below = Math.max(below, depth(called, above + 1));
                }
            }
            return below + 1;
        }
    }
}
