import com.sun.source.tree.AssertTree;
import com.sun.source.tree.BinaryTree;
import com.sun.source.tree.ClassTree;
import com.sun.source.tree.CompilationUnitTree;
import com.sun.source.tree.ExpressionTree;
import com.sun.source.tree.ImportTree;
import com.sun.source.tree.LambdaExpressionTree;
import com.sun.source.tree.LiteralTree;
import com.sun.source.tree.MemberReferenceTree;
import com.sun.source.tree.MethodInvocationTree;
import com.sun.source.tree.MethodTree;
import com.sun.source.tree.NewArrayTree;
import com.sun.source.tree.NewClassTree;
import com.sun.source.tree.SynchronizedTree;
import com.sun.source.tree.ThrowTree;
import com.sun.source.tree.Tree;
import com.sun.source.tree.TryTree;
import com.sun.source.util.JavacTask;
import com.sun.source.util.TreePath;
import com.sun.source.util.TreePathScanner;
import com.sun.source.util.Trees;
import java.io.IOException;
import java.nio.file.Path;
import java.util.ArrayList;
import java.util.HashMap;
import java.util.LinkedHashSet;
import java.util.List;
import java.util.Map;
import java.util.Set;
import javax.lang.model.element.Element;
import javax.lang.model.element.ElementKind;
import javax.lang.model.element.ExecutableElement;
import javax.lang.model.element.Modifier;
import javax.lang.model.element.TypeElement;
import javax.lang.model.type.TypeMirror;
import javax.tools.JavaCompiler;
import javax.tools.StandardJavaFileManager;
import javax.tools.ToolProvider;

/** What of ../shared/LANGUAGE.md can be seen in the source; the compiler itself reads the source for this. */
public final class LanguageTests extends Tests {
    private static final Path SOURCE = Path.of("src/main/java/TwoEndQueues.java");
    private static final Set<String> EXCEPTIONS = Set.of(
        "IllegalStateException", "IllegalArgumentException", "IndexOutOfBoundsException", "ArithmeticException",
        "UnsupportedOperationException", "NoSuchElementException", "RuntimeException");
    /** Of the library, what the class uses now; LANGUAGE.md rule 4 lists what else may come here. */
    private static final Set<String> LIBRARY = Set.of("Integer.bitCount", "Math.min", "System.arraycopy");
    private static final int MOST_LINES = 60;
    private static final int DEEPEST = 8;
    private static final int MOST_CLASSES = 12;
    private static final int MOST_FIELDS = 20;

    public static void main(String[] args) throws IOException {
        JavaCompiler compiler = ToolProvider.getSystemJavaCompiler();
        StandardJavaFileManager files = compiler.getStandardFileManager(null, null, null);
        JavacTask task = (JavacTask) compiler.getTask(
            null, files, null, List.of("-proc:none"), null, files.getJavaFileObjects(SOURCE));
        CompilationUnitTree unit = task.parse().iterator().next();
        task.analyze();
        Reader reader = new Reader(Trees.instance(task), unit);
        reader.scan(unit, null);
        place = "LANGUAGE.md rule 1";
        due("the classes of the file that stand in no other", unit.getTypeDecls().size(), 1);
        due("package lines", unit.getPackageName() == null ? 0 : 1, 0);
        place = "LANGUAGE.md rule 11";
        if (reader.classes > MOST_CLASSES) {
            tellWrong(reader.classes + " classes, due are at most " + MOST_CLASSES);
        }
        reader.callsGoNotTooDeep();
        due("methods of the face that were found", reader.faceMethods, 33);
        finish("the class keeps to what can be seen of LANGUAGE.md");
    }

    private static final class Reader extends TreePathScanner<Void, Void> {
        private final Trees trees;
        private final CompilationUnitTree unit;
        private final Map<Element, Set<Element>> calls = new HashMap<>();
        private final Map<Element, List<Element>> overriders = new HashMap<>();
        private final List<ExecutableElement> methods = new ArrayList<>();
        private final Map<Element, Integer> depths = new HashMap<>();
        private Element method;
        private int classes = 0;
        private int faceMethods = 0;

        Reader(Trees trees, CompilationUnitTree unit) {
            this.trees = trees;
            this.unit = unit;
        }

        private void refuse(int rule, Tree tree, String why) {
            long at = trees.getSourcePositions().getStartPosition(unit, tree);
            place = "LANGUAGE.md rule " + rule + ", line " + unit.getLineMap().getLineNumber(at);
            tellWrong(why);
        }

        private Element elementOf(Tree tree) {
            return trees.getElement(TreePath.getPath(unit, tree));
        }

        @Override
        public Void visitImport(ImportTree tree, Void none) {
            refuse(4, tree, "an import");
            return super.visitImport(tree, none);
        }

        @Override
        public Void visitClass(ClassTree tree, Void none) {
            classes++;
            int fields = 0;
            for (Element member : elementOf(tree).getEnclosedElements()) {
                boolean isStatic = member.getModifiers().contains(Modifier.STATIC);
                fields += member.getKind() == ElementKind.FIELD && !isStatic ? 1 : 0;
            }
            if (fields > MOST_FIELDS) {
                refuse(11, tree, fields + " fields");
            }
            return super.visitClass(tree, none);
        }

        @Override
        public Void visitMethod(MethodTree tree, Void none) {
            Element outer = method;
            method = elementOf(tree);
            methods.add((ExecutableElement) method);
            calls.put(method, new LinkedHashSet<>());
            if (linesOf(tree) > MOST_LINES) {
                refuse(11, tree, linesOf(tree) + " lines: " + tree.getName());
            }
            super.visitMethod(tree, none);
            method = outer;
            return null;
        }

        private long linesOf(Tree tree) {
            long first = trees.getSourcePositions().getStartPosition(unit, tree);
            long last = trees.getSourcePositions().getEndPosition(unit, tree);
            return unit.getLineMap().getLineNumber(last) - unit.getLineMap().getLineNumber(first) + 1;
        }

        @Override
        public Void visitMethodInvocation(MethodInvocationTree tree, Void none) {
            Element called = elementOf(tree.getMethodSelect());
            if (method != null) {
                calls.get(method).add(called);
            }
            String name = called.getEnclosingElement().getSimpleName() + "." + called.getSimpleName();
            boolean isOwn = ownClass((TypeElement) called.getEnclosingElement());
            if (!isOwn && called.getKind() != ElementKind.CONSTRUCTOR && !LIBRARY.contains(name)) {
                refuse(4, tree, "a call of the library: " + name);
            }
            return super.visitMethodInvocation(tree, none);
        }

        private boolean ownClass(TypeElement type) {
            return type.getQualifiedName().toString().startsWith("TwoEndQueues");
        }

        /** Everything is made by constructors, so that calls make no objects, however many there are. */
        @Override
        public Void visitNewClass(NewClassTree tree, Void none) {
            boolean isThrown = getCurrentPath().getParentPath().getLeaf() instanceof ThrowTree;
            boolean inConstructor = method == null || method.getKind() == ElementKind.CONSTRUCTOR;
            if (!isThrown && !inConstructor) {
                refuse(12, tree, "an object made by a call: " + tree);
            }
            return super.visitNewClass(tree, none);
        }

        @Override
        public Void visitNewArray(NewArrayTree tree, Void none) {
            if (method != null && method.getKind() != ElementKind.CONSTRUCTOR) {
                refuse(12, tree, "an array made by a call: " + tree);
            }
            return super.visitNewArray(tree, none);
        }

        @Override
        public Void visitThrow(ThrowTree tree, Void none) {
            if (method == null || method.getKind() == ElementKind.CONSTRUCTOR) {
                refuse(6, tree, "a throw in a constructor");
            }
            if (!isPlainThrow(tree.getExpression())) {
                refuse(6, tree, "not a throw of a listed exception with a written text: " + tree);
            }
            return super.visitThrow(tree, none);
        }

        private boolean isPlainThrow(ExpressionTree thrown) {
            if (!(thrown instanceof NewClassTree made) || !EXCEPTIONS.contains(made.getIdentifier().toString())) {
                return false;
            }
            return made.getArguments().isEmpty()
                || made.getArguments().size() == 1 && made.getArguments().get(0) instanceof LiteralTree;
        }

        @Override
        public Void visitTry(TryTree tree, Void none) {
            refuse(6, tree, "a try; the class answers no call by catching");
            return super.visitTry(tree, none);
        }

        @Override
        public Void visitSynchronized(SynchronizedTree tree, Void none) {
            refuse(6, tree, "synchronized");
            return super.visitSynchronized(tree, none);
        }

        @Override
        public Void visitAssert(AssertTree tree, Void none) {
            refuse(6, tree, "assert");
            return super.visitAssert(tree, none);
        }

        @Override
        public Void visitLambdaExpression(LambdaExpressionTree tree, Void none) {
            refuse(2, tree, "a lambda");
            return super.visitLambdaExpression(tree, none);
        }

        @Override
        public Void visitMemberReference(MemberReferenceTree tree, Void none) {
            refuse(2, tree, "a method reference");
            return super.visitMemberReference(tree, none);
        }

        @Override
        public Void visitBinary(BinaryTree tree, Void none) {
            TypeMirror type = trees.getTypeMirror(TreePath.getPath(unit, tree));
            if (type.toString().equals("java.lang.String")) {
                refuse(10, tree, "texts joined by +");
            }
            return super.visitBinary(tree, none);
        }

        /** Every call counts, those of the library too; the call of the face is the first. */
        void callsGoNotTooDeep() {
            findOverriders();
            for (ExecutableElement called : methods) {
                int depth = depthOf(called, new LinkedHashSet<>());
                if (called.getModifiers().contains(Modifier.PUBLIC) && called.getKind() == ElementKind.METHOD) {
                    faceMethods++;
                }
                if (depth > DEEPEST) {
                    tellWrong(called + " goes " + depth + " calls deep, due are at most " + DEEPEST);
                }
            }
        }

        private void findOverriders() {
            for (ExecutableElement one : methods) {
                for (ExecutableElement other : methods) {
                    TypeElement type = (TypeElement) one.getEnclosingElement();
                    boolean isInherited = type.getSuperclass().toString()
                        .equals(other.getEnclosingElement().toString());
                    if (isInherited && one.toString().equals(other.toString())) {
                        overriders.computeIfAbsent(other, key -> new ArrayList<>()).add(one);
                    }
                }
            }
        }

        private int depthOf(Element called, Set<Element> open) {
            if (depths.containsKey(called)) {
                return depths.get(called);
            }
            if (!open.add(called)) {
                tellWrong(called + " calls itself");
                return 1;
            }
            int deepest = 0;
            for (Element next : calls.getOrDefault(called, Set.of())) {
                deepest = Math.max(deepest, depthOf(next, open));
            }
            for (Element next : overriders.getOrDefault(called, List.of())) {
                deepest = Math.max(deepest, depthOf(next, open) - 1);
            }
            open.remove(called);
            depths.put(called, deepest + 1);
            return deepest + 1;
        }
    }
}
