import com.sun.source.tree.AssertTree;
import com.sun.source.tree.BinaryTree;
import com.sun.source.tree.ClassTree;
import com.sun.source.tree.CompilationUnitTree;
import com.sun.source.tree.DoWhileLoopTree;
import com.sun.source.tree.ExpressionTree;
import com.sun.source.tree.ForLoopTree;
import com.sun.source.tree.LambdaExpressionTree;
import com.sun.source.tree.MemberReferenceTree;
import com.sun.source.tree.MethodInvocationTree;
import com.sun.source.tree.MethodTree;
import com.sun.source.tree.NewClassTree;
import com.sun.source.tree.SynchronizedTree;
import com.sun.source.tree.ThrowTree;
import com.sun.source.tree.Tree;
import com.sun.source.tree.TryTree;
import com.sun.source.tree.VariableTree;
import com.sun.source.tree.WhileLoopTree;
import com.sun.source.util.JavacTask;
import com.sun.source.util.SourcePositions;
import com.sun.source.util.TreePath;
import com.sun.source.util.TreePathScanner;
import com.sun.source.util.Trees;
import java.io.IOException;
import java.nio.file.Path;
import java.util.ArrayList;
import java.util.HashMap;
import java.util.LinkedHashSet;
import java.util.List;
import java.util.Map;
import java.util.Set;
import javax.lang.model.element.Element;
import javax.lang.model.element.ElementKind;
import javax.lang.model.element.Modifier;
import javax.lang.model.element.TypeElement;
import javax.lang.model.type.TypeKind;
import javax.tools.JavaCompiler;
import javax.tools.StandardJavaFileManager;
import javax.tools.ToolProvider;

/** The rules of LANGUAGE.md that a reader of the source can count or look up; FaceTest looks after the face. */
public final class LanguageTest extends Checks {
    private static final Path SOURCE = Path.of("src/main/java/StepPairs.java");

    /** Rule 11 has eight: one of them is left for a function of the library, or for the caller. */
    private static final int MOST_DEEP = 7;
    private static final int MOST_LINES = 60;
    private static final int MOST_PARAMETERS = 7;
    private static final int MOST_CLASSES = 12;
    private static final int MOST_FIELDS = 20;

    private static final Set<String> NUMBERS = Set.of("java.lang.Math", "java.lang.Integer", "java.lang.Long");

    public static void main(String[] args) throws IOException {
        JavaCompiler compiler = ToolProvider.getSystemJavaCompiler();
        try (StandardJavaFileManager files = compiler.getStandardFileManager(null, null, null)) {
            JavacTask task = (JavacTask) compiler.getTask(null, files, null, List.of("-proc:none"), null, files.getJavaFileObjects(SOURCE));
            CompilationUnitTree unit = task.parse().iterator().next();
            task.analyze();
            Reader reader = new Reader(Trees.instance(task), unit);
            reader.scan(unit, null);
            sentence("LANGUAGE.md, rule 11: at most some twelve classes");
            atMost("classes", reader.classes, MOST_CLASSES);
            depths(reader.calls);
        }
        end("LanguageTest");
    }

    private static void atMost(String what, long got, long most) {
        due(what + " are " + got + ", at most " + most, Math.max(got, most), most);
    }

    private static void depths(Map<Element, Set<Element>> calls) {
        sentence("LANGUAGE.md, rules 8 and 11: no recursion, and calls go at most eight deep");
        due("methods are found", calls.size() > 20 ? 1 : 0, 1);
        for (Element method : calls.keySet()) {
            List<Element> chain = longest(method, calls, MOST_DEEP + 1);
            atMost("calls " + chain, chain.size(), MOST_DEEP);
        }
    }

    /** The longest chain of calls from a method on, up to a length; one that calls itself fills it. */
    private static List<Element> longest(Element method, Map<Element, Set<Element>> calls, int length) {
        List<Element> rest = List.of();
        for (Element called : length > 1 ? calls.getOrDefault(method, Set.of()) : Set.<Element>of()) {
            List<Element> chain = longest(called, calls, length - 1);
            rest = chain.size() > rest.size() ? chain : rest;
        }
        List<Element> whole = new ArrayList<>(List.of(method));
        whole.addAll(rest);
        return whole;
    }

    private static final class Reader extends TreePathScanner<Void, Void> {
        private final Trees trees;
        private final CompilationUnitTree unit;
        private final Map<Element, Set<Element>> calls = new HashMap<>();
        private Element method;
        private int classes;

        Reader(Trees trees, CompilationUnitTree unit) {
            this.trees = trees;
            this.unit = unit;
        }

        private long line(long position) {
            return unit.getLineMap().getLineNumber(position);
        }

        private String place(Tree tree) {
            return "line " + line(trees.getSourcePositions().getStartPosition(unit, tree));
        }

        private Void refuse(String rule, Tree tree) {
            sentence("LANGUAGE.md, " + rule);
            due(place(tree), 1, 0);
            return null;
        }

        private static boolean isOwn(Element element) {
            for (Element around = element; around != null; around = around.getEnclosingElement()) {
                if (around instanceof TypeElement type && type.getQualifiedName().contentEquals("StepPairs")) {
                    return true;
                }
            }
            return false;
        }

        @Override
        public Void visitClass(ClassTree tree, Void nothing) {
            classes++;
            int fields = 0;
            for (Tree member : tree.getMembers()) {
                if (member instanceof VariableTree field) {
                    Set<Modifier> flags = field.getModifiers().getFlags();
                    boolean constant = flags.contains(Modifier.STATIC);
                    fields += constant ? 0 : 1;
                    if (constant && !flags.contains(Modifier.FINAL)) {
                        refuse("rule 5: Static fields are final", field);
                    }
                }
                if (member.getKind() == Tree.Kind.BLOCK) {
                    refuse("rule 5: no static initialiser block", member);
                }
            }
            sentence("LANGUAGE.md, rule 11: a class has some twenty fields");
            atMost("fields of " + tree.getSimpleName(), fields, MOST_FIELDS);
            return super.visitClass(tree, nothing);
        }

        @Override
        public Void visitMethod(MethodTree tree, Void nothing) {
            SourcePositions positions = trees.getSourcePositions();
            long lines = line(positions.getEndPosition(unit, tree)) - line(positions.getStartPosition(unit, tree)) + 1;
            sentence("LANGUAGE.md, rule 11: at most seven parameters, some sixty lines");
            atMost("lines of " + tree.getName(), lines, MOST_LINES);
            atMost("parameters of " + tree.getName(), tree.getParameters().size(), MOST_PARAMETERS);
            method = trees.getElement(getCurrentPath());
            calls.put(method, new LinkedHashSet<>());
            super.visitMethod(tree, nothing);
            method = null;
            return null;
        }

        /** Own methods go into the chains; of the library's own, the class needs only what stands here. */
        private void called(Tree tree) {
            Element called = trees.getElement(getCurrentPath());
            if (isOwn(called)) {
                if (method != null) {
                    calls.get(method).add(called);
                }
                return;
            }
            String owner = called.getEnclosingElement().toString();
            String name = called.getSimpleName().toString();
            boolean copies = owner.equals("java.lang.System") && name.equals("arraycopy");
            boolean counts = NUMBERS.contains(owner) && called.getModifiers().contains(Modifier.STATIC) && !name.endsWith("Exact");
            boolean superclass = owner.equals("java.lang.Object") && called.getKind() == ElementKind.CONSTRUCTOR;
            if (!copies && !counts && !superclass) {
                refuse("rule 4: The library: only what stands here (" + owner + "." + name + ")", tree);
            }
        }

        @Override
        public Void visitMethodInvocation(MethodInvocationTree tree, Void nothing) {
            called(tree);
            for (ExpressionTree argument : tree.getArguments()) {
                TypeKind kind = trees.getTypeMirror(new TreePath(getCurrentPath(), argument)).getKind();
                boolean real = kind == TypeKind.DOUBLE || kind == TypeKind.FLOAT;
                if (real && !isOwn(trees.getElement(getCurrentPath()))) {
                    refuse("rule 3: no Math on doubles and floats", tree);
                }
            }
            return super.visitMethodInvocation(tree, nothing);
        }

        @Override
        public Void visitNewClass(NewClassTree tree, Void nothing) {
            called(tree);
            return super.visitNewClass(tree, nothing);
        }

        @Override
        public Void visitBinary(BinaryTree tree, Void nothing) {
            if (trees.getTypeMirror(getCurrentPath()).getKind() == TypeKind.DECLARED) {
                refuse("rule 10: joining texts by StringBuilder (not by +)", tree);
            }
            return super.visitBinary(tree, nothing);
        }

        private void ends(ExpressionTree condition, Tree loop) {
            if (condition == null || condition.toString().replaceAll("[()]", "").equals("true")) {
                refuse("rule 9: Every loop has an end that can be seen", loop);
            }
        }

        @Override
        public Void visitForLoop(ForLoopTree tree, Void nothing) {
            ends(tree.getCondition(), tree);
            return super.visitForLoop(tree, nothing);
        }

        @Override
        public Void visitWhileLoop(WhileLoopTree tree, Void nothing) {
            ends(tree.getCondition(), tree);
            return super.visitWhileLoop(tree, nothing);
        }

        @Override
        public Void visitDoWhileLoop(DoWhileLoopTree tree, Void nothing) {
            ends(tree.getCondition(), tree);
            return super.visitDoWhileLoop(tree, nothing);
        }

        @Override
        public Void visitLambdaExpression(LambdaExpressionTree tree, Void nothing) {
            return refuse("rule 2: no lambda", tree);
        }

        @Override
        public Void visitMemberReference(MemberReferenceTree tree, Void nothing) {
            return refuse("rule 2: no method reference", tree);
        }

        @Override
        public Void visitThrow(ThrowTree tree, Void nothing) {
            return refuse("rule 6: A call throws where the document says (nowhere)", tree);
        }

        @Override
        public Void visitTry(TryTree tree, Void nothing) {
            return refuse("rule 6: A call throws where the document says (nowhere, so there is nothing to catch)", tree);
        }

        @Override
        public Void visitSynchronized(SynchronizedTree tree, Void nothing) {
            return refuse("rule 6: No synchronized", tree);
        }

        @Override
        public Void visitAssert(AssertTree tree, Void nothing) {
            return refuse("rule 6: No assert", tree);
        }
    }
}
