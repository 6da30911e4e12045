import com.sun.source.tree.BlockTree;
import com.sun.source.tree.ClassTree;
import com.sun.source.tree.CompilationUnitTree;
import com.sun.source.tree.MethodInvocationTree;
import com.sun.source.tree.MethodTree;
import com.sun.source.tree.NewArrayTree;
import com.sun.source.tree.NewClassTree;
import com.sun.source.tree.Tree.Kind;
import com.sun.source.tree.VariableTree;
import com.sun.source.util.JavacTask;
import com.sun.source.util.TreePath;
import com.sun.source.util.TreePathScanner;
import com.sun.source.util.Trees;
import java.io.File;
import java.io.IOException;
import java.util.EnumSet;
import java.util.HashMap;
import java.util.HashSet;
import java.util.List;
import java.util.Map;
import java.util.Set;
import javax.lang.model.element.Element;
import javax.lang.model.element.ElementKind;
import javax.lang.model.element.Modifier;
import javax.tools.JavaCompiler;
import javax.tools.StandardJavaFileManager;
import javax.tools.ToolProvider;

/** What the source shows of the rules 2, 4, 5, 6, 8, 11 and 12 of LANGUAGE.md, held narrower than they must be. */
public final class LanguageTest {
    private static final String PROGRAM = "src/main/java/CertificatePath.java";
    private static final int MOST_CLASSES = 12;
    private static final int MOST_FIELDS = 20;
    private static final int MOST_PARAMETERS = 7;
    private static final int MOST_LINES = 60;
    private static final int MOST_DEEP = 8;

    /** What the rules 2, 4 and 6 rule out, and what the program needs none of besides. */
    private static final Set<Kind> REFUSED = EnumSet.of(
        Kind.IMPORT, Kind.PACKAGE, Kind.LAMBDA_EXPRESSION, Kind.MEMBER_REFERENCE, Kind.THROW, Kind.TRY, Kind.CATCH,
        Kind.SYNCHRONIZED, Kind.ASSERT, Kind.INSTANCE_OF, Kind.ANNOTATION, Kind.STRING_LITERAL, Kind.NULL_LITERAL,
        Kind.FLOAT_LITERAL, Kind.DOUBLE_LITERAL);

    private static final Due due = new Due();

    public static void main(String[] args) throws IOException {
        JavaCompiler compiler = ToolProvider.getSystemJavaCompiler();
        try (StandardJavaFileManager files = compiler.getStandardFileManager(null, null, null)) {
            JavacTask task = (JavacTask) compiler.getTask(
                null, files, null, List.of("-proc:none"), null, files.getJavaFileObjects(new File(PROGRAM)));
            CompilationUnitTree unit = task.parse().iterator().next();
            task.analyze();
            Walk walk = new Walk(unit, Trees.instance(task));
            walk.scan(unit, null);
            walk.end();
        }
        due.end();
    }

    /** Goes through the source once; the calls are gathered, since their depth is known only at the end. */
    private static final class Walk extends TreePathScanner<Void, Void> {
        private final CompilationUnitTree unit;
        private final Trees trees;
        private final Map<Element, Set<Element>> calls = new HashMap<>();
        private int classes = 0;

        Walk(CompilationUnitTree unit, Trees trees) {
            this.unit = unit;
            this.trees = trees;
        }

        @Override
        public Void scan(com.sun.source.tree.Tree tree, Void unused) {
            if (tree != null) {
                due.answer(tree.getKind() + " stands there: " + tree, REFUSED.contains(tree.getKind()), false);
            }
            return super.scan(tree, unused);
        }

        @Override
        public Void visitClass(ClassTree tree, Void unused) {
            classes++;
            String name = tree.getSimpleName().toString();
            boolean outer = getCurrentPath().getParentPath().getLeaf() == unit;
            Set<Modifier> marks = tree.getModifiers().getFlags();
            due.answer(name + " is a class", tree.getKind() == Kind.CLASS, true);
            due.answer(name + " is static", outer || marks.contains(Modifier.STATIC), true);
            due.answer(name + " is final", marks.contains(Modifier.FINAL), true);
            due.answer(name + " is public", marks.contains(Modifier.PUBLIC), outer);
            fields(name, tree);
            return super.visitClass(tree, unused);
        }

        private void fields(String name, ClassTree tree) {
            int own = 0;
            for (com.sun.source.tree.Tree member : tree.getMembers()) {
                due.answer(name + " has a block of its own", member instanceof BlockTree, false);
                if (member instanceof VariableTree) {
                    VariableTree field = (VariableTree) member;
                    Set<Modifier> marks = field.getModifiers().getFlags();
                    boolean fixed = marks.contains(Modifier.STATIC);
                    due.answer(name + "." + field.getName() + " is static, but not a final int", fixed
                        && !(marks.contains(Modifier.FINAL) && field.getType().toString().equals("int")), false);
                    own += fixed ? 0 : 1;
                }
            }
            due.answer(name + " has at most " + MOST_FIELDS + " fields, not " + own, own <= MOST_FIELDS, true);
        }

        @Override
        public Void visitMethod(MethodTree tree, Void unused) {
            Element method = trees.getElement(getCurrentPath());
            calls.computeIfAbsent(method, m -> new HashSet<>());
            int parameters = tree.getParameters().size();
            due.answer(told(method) + " has " + parameters + " parameters", parameters <= MOST_PARAMETERS, true);
            long lines = line(trees.getSourcePositions().getEndPosition(unit, tree))
                - line(trees.getSourcePositions().getStartPosition(unit, tree)) + 1;
            due.answer(told(method) + " has " + lines + " lines", lines <= MOST_LINES, true);
            return super.visitMethod(tree, unused);
        }

        private long line(long position) {
            return unit.getLineMap().getLineNumber(position);
        }

        @Override
        public Void visitMethodInvocation(MethodInvocationTree tree, Void unused) {
            noteCall(trees.getElement(getCurrentPath()));
            return super.visitMethodInvocation(tree, unused);
        }

        @Override
        public Void visitNewClass(NewClassTree tree, Void unused) {
            due.answer("a class without a name: " + tree, tree.getClassBody() != null, false);
            noteCall(trees.getElement(getCurrentPath()));
            madeByConstructor(tree);
            return super.visitNewClass(tree, unused);
        }

        @Override
        public Void visitNewArray(NewArrayTree tree, Void unused) {
            madeByConstructor(tree);
            return super.visitNewArray(tree, unused);
        }

        private void madeByConstructor(com.sun.source.tree.Tree tree) {
            Element maker = methodAround();
            due.answer(tree + " in " + told(maker) + ", which is no constructor",
                maker.getKind() == ElementKind.CONSTRUCTOR, true);
        }

        private void noteCall(Element called) {
            Element caller = methodAround();
            if (!called.getEnclosingElement().toString().equals("java.lang.Object")) {
                calls.computeIfAbsent(caller, m -> new HashSet<>()).add(called);
            }
        }

        private Element methodAround() {
            TreePath path = getCurrentPath();
            while (path.getLeaf().getKind() != Kind.METHOD) {
                path = path.getParentPath();
            }
            return trees.getElement(path);
        }

        void end() {
            due.answer("classes: " + classes, classes <= MOST_CLASSES, true);
            due.answer("the public methods and the constructor are seen", calls.size() > 17, true);
            for (Set<Element> called : calls.values()) {
                for (Element method : called) {
                    due.answer(told(method) + " is the program's own", calls.containsKey(method), true);
                }
            }
            for (Element method : calls.keySet()) {
                due.answer(told(method) + " goes at most " + MOST_DEEP + " deep", isWithinDepth(method, MOST_DEEP), true);
            }
        }

        /** A method that calls itself, by whatever way, is within no depth. */
        private boolean isWithinDepth(Element method, int depth) {
            if (depth == 0) {
                return false;
            }
            for (Element called : calls.getOrDefault(method, Set.of())) {
                if (!isWithinDepth(called, depth - 1)) {
                    return false;
                }
            }
            return true;
        }

        private static String told(Element method) {
            return method.getEnclosingElement() + "." + method;
        }
    }
}
