import com.sun.source.tree.AssertTree;
import com.sun.source.tree.BlockTree;
import com.sun.source.tree.ClassTree;
import com.sun.source.tree.CompilationUnitTree;
import com.sun.source.tree.ImportTree;
import com.sun.source.tree.LambdaExpressionTree;
import com.sun.source.tree.MemberReferenceTree;
import com.sun.source.tree.MethodInvocationTree;
import com.sun.source.tree.MethodTree;
import com.sun.source.tree.NewArrayTree;
import com.sun.source.tree.NewClassTree;
import com.sun.source.tree.SynchronizedTree;
import com.sun.source.tree.ThrowTree;
import com.sun.source.tree.Tree;
import com.sun.source.tree.TryTree;
import com.sun.source.tree.VariableTree;
import com.sun.source.util.JavacTask;
import com.sun.source.util.TreePath;
import com.sun.source.util.TreePathScanner;
import com.sun.source.util.Trees;
import java.io.IOException;
import java.util.HashMap;
import java.util.HashSet;
import java.util.List;
import java.util.Map;
import java.util.Set;
import java.util.TreeSet;
import javax.lang.model.element.Element;
import javax.lang.model.element.ElementKind;
import javax.lang.model.element.Modifier;
import javax.tools.JavaCompiler;
import javax.tools.StandardJavaFileManager;
import javax.tools.ToolProvider;

/**
 * The rules of LANGUAGE.md that can be seen in the program's text without running it. Where the
 * program needs less than a rule allows (no try, no recursion, no list) the less is asked for, as it
 * is simpler to see. Rule 0 is what stands ahead of the rules.
 */
public final class LanguageTest {
    private static final String SOURCE = "src/main/java/RecursionProofs.java";
    private static final Set<String> LIBRARY = Set.of("java.util.Arrays.fill", "java.util.Arrays.copyOf",
            "java.util.Arrays.copyOfRange", "java.lang.System.arraycopy", "java.lang.Math.min",
            "java.lang.Math.max", "java.lang.Math.abs", "java.lang.Math.floorDiv", "java.lang.Math.floorMod",
            "java.lang.Integer.compare", "java.lang.Integer.bitCount", "java.lang.Integer.compareUnsigned",
            "java.lang.Integer.numberOfTrailingZeros", "java.lang.Long.compare", "java.lang.Long.bitCount");
    private static final Set<String> EXCEPTIONS = Set.of("IllegalStateException", "IllegalArgumentException",
            "IndexOutOfBoundsException", "ArithmeticException", "UnsupportedOperationException",
            "NoSuchElementException", "RuntimeException");
    private static final int MOST_PARAMETERS = 7;
    private static final int MOST_LINES = 60;
    private static final int MOST_DEEP = 8;
    private static final int MOST_CLASSES = 12;
    private static final int MOST_FIELDS = 20;

    private static final Check check = new Check();

    public static void main(String[] args) throws IOException {
        JavaCompiler compiler = ToolProvider.getSystemJavaCompiler();
        StandardJavaFileManager files = compiler.getStandardFileManager(null, null, null);
        JavacTask task = (JavacTask) compiler.getTask(null, files, null, List.of("--release", "17"), null,
                files.getJavaFileObjects(SOURCE));
        CompilationUnitTree file = task.parse().iterator().next();
        task.analyze();
        Rules rules = new Rules(file, Trees.instance(task));
        rules.scan(file, null);
        rules.whole();
        check.end();
    }

    private static final class Rules extends TreePathScanner<Void, Void> {
        final CompilationUnitTree file;
        final Trees trees;
        final Set<String> faceNames = new TreeSet<>();
        final Set<String> hiddenNames = new TreeSet<>();
        final Map<Element, Set<Element>> called = new HashMap<>();
        int classes;
        /** The one that is being looked at; null among the fields. */
        Element method;

        Rules(CompilationUnitTree file, Trees trees) {
            this.file = file;
            this.trees = trees;
        }

        void holds(String rule, Tree at, boolean so) {
            long start = trees.getSourcePositions().getStartPosition(file, at);
            check.same("rule " + rule + ", line " + file.getLineMap().getLineNumber(start), so, true);
        }

        void whole() {
            holds("0: no package", file, file.getPackageName() == null);
            holds("0: one class in the file", file, file.getTypeDecls().size() == 1);
            holds("1: names of the face are its own " + hiddenNames, file,
                    hiddenNames.stream().noneMatch(faceNames::contains));
            holds("11: " + classes + " classes", file, classes <= MOST_CLASSES);
            for (Element m : called.keySet()) {
                check.same("rules 8 and 11: " + m + " goes at most eight deep",
                        depth(m, new HashSet<>()) <= MOST_DEEP, true);
            }
        }

        /** A method that calls itself, over others too, counts as too deep: the program has none. */
        int depth(Element m, Set<Element> open) {
            if (!open.add(m)) {
                return MOST_DEEP + 1;
            }
            int deepest = 0;
            for (Element other : called.getOrDefault(m, Set.of())) {
                deepest = Math.max(deepest, depth(other, open));
            }
            open.remove(m);
            return 1 + deepest;
        }

        Element elementOf(Tree tree) {
            return trees.getElement(new TreePath(getCurrentPath(), tree));
        }

        @Override
        public Void visitImport(ImportTree tree, Void none) {
            String name = tree.getQualifiedIdentifier().toString();
            holds("4: import " + name, tree, name.equals("java.util.Arrays"));
            return null;
        }

        @Override
        public Void visitClass(ClassTree tree, Void none) {
            classes++;
            Set<Modifier> is = tree.getModifiers().getFlags();
            boolean face = getCurrentPath().getParentPath().getLeaf() == file;
            holds("1: " + tree.getSimpleName(), tree, face
                    ? is.equals(Set.of(Modifier.PUBLIC, Modifier.FINAL))
                    : is.contains(Modifier.STATIC) && !is.contains(Modifier.PUBLIC)
                            && !is.contains(Modifier.PROTECTED));
            int fields = 0;
            for (Tree member : tree.getMembers()) {
                if (member instanceof VariableTree field && !isStatic(field)) {
                    fields++;
                }
                if (member instanceof BlockTree block) {
                    holds("5: no static block", block, !block.isStatic());
                }
            }
            holds("11: fields of " + tree.getSimpleName(), tree, fields <= MOST_FIELDS);
            return super.visitClass(tree, none);
        }

        @Override
        public Void visitMethod(MethodTree tree, Void none) {
            method = trees.getElement(getCurrentPath());
            called.put(method, new HashSet<>());
            String name = tree.getName().toString();
            if (!name.equals("<init>")) {
                boolean open = tree.getModifiers().getFlags().contains(Modifier.PUBLIC);
                (open ? faceNames : hiddenNames).add(name);
            }
            long first = trees.getSourcePositions().getStartPosition(file, tree);
            long last = trees.getSourcePositions().getEndPosition(file, tree);
            long lines = file.getLineMap().getLineNumber(last) - file.getLineMap().getLineNumber(first) + 1;
            holds("11: lines of " + name, tree, lines <= MOST_LINES);
            holds("11: parameters of " + name, tree, tree.getParameters().size() <= MOST_PARAMETERS);
            holds("6: " + name, tree, !Set.of("equals", "hashCode", "toString").contains(name));
            super.visitMethod(tree, none);
            method = null;
            return null;
        }

        static boolean isStatic(VariableTree field) {
            return field.getModifiers().getFlags().contains(Modifier.STATIC);
        }

        @Override
        public Void visitVariable(VariableTree tree, Void none) {
            String type = tree.getType() == null ? "var" : tree.getType().toString();
            if (isStatic(tree)) {
                holds("5: " + tree.getName() + " is final", tree,
                        tree.getModifiers().getFlags().contains(Modifier.FINAL));
                holds("5: " + tree.getName() + " is a constant", tree, tree.getInitializer() != null
                        && Set.of("int", "long", "boolean", "char", "String").contains(type));
            }
            holds("3: no double, no float, no var", tree, !type.matches("(double|float|var).*"));
            return super.visitVariable(tree, none);
        }

        @Override
        public Void visitMethodInvocation(MethodInvocationTree tree, Void none) {
            Element callee = elementOf(tree.getMethodSelect());
            String owner = callee.getEnclosingElement().toString();
            if (owner.startsWith("RecursionProofs")) {
                holds("12: fields are made without calls", tree, method != null);
                called.getOrDefault(method, new HashSet<>()).add(callee);
            } else if (callee.getKind() != ElementKind.CONSTRUCTOR) {
                String name = owner + "." + callee.getSimpleName();
                holds("4: " + name, tree, LIBRARY.contains(name));
            }
            return super.visitMethodInvocation(tree, none);
        }

        @Override
        public Void visitNewClass(NewClassTree tree, Void none) {
            boolean thrown = getCurrentPath().getParentPath().getLeaf() instanceof ThrowTree;
            String owner = elementOf(tree.getIdentifier()).toString();
            holds("4: new " + owner, tree, thrown || owner.startsWith("RecursionProofs."));
            holds("12: new " + owner + " while an object is made", tree, thrown || isMaking());
            return super.visitNewClass(tree, none);
        }

        @Override
        public Void visitNewArray(NewArrayTree tree, Void none) {
            holds("12: a new array while an object is made", tree, isMaking());
            return super.visitNewArray(tree, none);
        }

        /** All calls of a run share one room, so later calls use what the constructors made. */
        boolean isMaking() {
            return method == null || method.getKind() == ElementKind.CONSTRUCTOR;
        }

        @Override
        public Void visitThrow(ThrowTree tree, Void none) {
            boolean written = tree.getExpression() instanceof NewClassTree made
                    && EXCEPTIONS.contains(made.getIdentifier().toString())
                    && made.getArguments().stream().allMatch(a -> a.getKind() == Tree.Kind.STRING_LITERAL);
            holds("6: throw new E(\"a written text\")", tree, written);
            holds("6: no throw in a constructor", tree, method.getKind() != ElementKind.CONSTRUCTOR);
            return super.visitThrow(tree, none);
        }

        @Override
        public Void visitTry(TryTree tree, Void none) {
            holds("6: the program needs no try", tree, false);
            return super.visitTry(tree, none);
        }

        @Override
        public Void visitLambdaExpression(LambdaExpressionTree tree, Void none) {
            holds("2: no lambda", tree, false);
            return super.visitLambdaExpression(tree, none);
        }

        @Override
        public Void visitMemberReference(MemberReferenceTree tree, Void none) {
            holds("2: no method reference", tree, false);
            return super.visitMemberReference(tree, none);
        }

        @Override
        public Void visitSynchronized(SynchronizedTree tree, Void none) {
            holds("6: no synchronized", tree, false);
            return super.visitSynchronized(tree, none);
        }

        @Override
        public Void visitAssert(AssertTree tree, Void none) {
            holds("6: no assert", tree, false);
            return super.visitAssert(tree, none);
        }
    }
}
