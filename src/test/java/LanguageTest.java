import com.sun.source.tree.AssertTree;
import com.sun.source.tree.BinaryTree;
import com.sun.source.tree.BlockTree;
import com.sun.source.tree.ClassTree;
import com.sun.source.tree.CompilationUnitTree;
import com.sun.source.tree.DoWhileLoopTree;
import com.sun.source.tree.EnhancedForLoopTree;
import com.sun.source.tree.ExpressionTree;
import com.sun.source.tree.ForLoopTree;
import com.sun.source.tree.ImportTree;
import com.sun.source.tree.LambdaExpressionTree;
import com.sun.source.tree.LiteralTree;
import com.sun.source.tree.MemberReferenceTree;
import com.sun.source.tree.MethodInvocationTree;
import com.sun.source.tree.MethodTree;
import com.sun.source.tree.NewArrayTree;
import com.sun.source.tree.NewClassTree;
import com.sun.source.tree.SynchronizedTree;
import com.sun.source.tree.ThrowTree;
import com.sun.source.tree.Tree;
import com.sun.source.tree.TryTree;
import com.sun.source.tree.TypeCastTree;
import com.sun.source.tree.VariableTree;
import com.sun.source.tree.WhileLoopTree;
import com.sun.source.util.JavacTask;
import com.sun.source.util.TreePathScanner;
import com.sun.source.util.Trees;
import java.io.IOException;
import java.nio.file.Path;
import java.util.Set;
import java.util.TreeMap;
import java.util.TreeSet;
import javax.lang.model.element.Element;
import javax.lang.model.element.ElementKind;
import javax.lang.model.element.ExecutableElement;
import javax.lang.model.element.Modifier;
import javax.lang.model.element.TypeElement;
import javax.lang.model.type.ArrayType;
import javax.lang.model.type.TypeKind;
import javax.lang.model.type.TypeMirror;
import javax.tools.JavaCompiler;
import javax.tools.StandardJavaFileManager;
import javax.tools.ToolProvider;

/**
 * Reads the class by the compiler's own eyes, and holds it to the rules of LANGUAGE.md. Where the class does with less
 * than a rule leaves (no try, no while, no cast of a reference), less is asked for.
 */
public final class LanguageTest {
    private static final Check check = new Check("LanguageTest");
    private static final Path SOURCE = Path.of("src", "main", "java", "Katacode.java");
    private static final Set<String> EXCEPTIONS = Set.of("IllegalStateException", "IllegalArgumentException",
        "IndexOutOfBoundsException", "ArithmeticException", "UnsupportedOperationException", "NoSuchElementException",
        "RuntimeException");
    private static final Set<String> LIBRARY = Set.of("length", "charAt", "isEmpty", "indexOf");
    private static final int DEEPEST = 8;
    private static final int LONGEST = 60;

    public static void main(String[] args) throws IOException {
        JavaCompiler compiler = ToolProvider.getSystemJavaCompiler();
        try (StandardJavaFileManager files = compiler.getStandardFileManager(null, null, null)) {
            JavacTask task = (JavacTask) compiler.getTask(null, files, null, null, null,
                files.getJavaFileObjects(SOURCE));
            for (CompilationUnitTree unit : task.parse()) {
                task.analyze();
                Reader reader = new Reader(Trees.instance(task), unit);
                reader.scan(unit, null);
                reader.looksAtCalls();
            }
        }
        check.finish();
    }

    private static final class Reader extends TreePathScanner<Void, Void> {
        private final Trees trees;
        private final CompilationUnitTree unit;
        private final TreeMap<String, Set<String>> calls = new TreeMap<>();
        private final TreeMap<String, Integer> deep = new TreeMap<>();
        private String method = "";
        private boolean isConstructor = false;
        private int loops = 0;

        Reader(Trees trees, CompilationUnitTree unit) {
            this.trees = trees;
            this.unit = unit;
        }

        private void fine(String rule, Tree where, boolean isFine) {
            long line = unit.getLineMap().getLineNumber(trees.getSourcePositions().getStartPosition(unit, where));
            check.words("rule " + rule);
            check.same("line " + line + ": " + where.getKind(), isFine, true);
        }

        private long line(long position) {
            return unit.getLineMap().getLineNumber(position);
        }

        private Element element() {
            return trees.getElement(getCurrentPath());
        }

        private boolean isOwn(Element element) {
            Element outer = element;
            while (outer != null && outer.getKind() != ElementKind.PACKAGE) {
                if (outer.getSimpleName().contentEquals("Katacode")) {
                    return true;
                }
                outer = outer.getEnclosingElement();
            }
            return false;
        }

        // ---- rules 1, 2, 4 and 5: what stands in the file ----

        @Override
        public Void visitCompilationUnit(CompilationUnitTree tree, Void none) {
            check.words("rule 1");
            check.same("a package line", tree.getPackageName(), null);
            check.same("types of the file", tree.getTypeDecls().size(), 1);
            return super.visitCompilationUnit(tree, none);
        }

        @Override
        public Void visitImport(ImportTree tree, Void none) {
            fine("4", tree, tree.getQualifiedIdentifier().toString().equals("java.util.NoSuchElementException"));
            return null;
        }

        @Override
        public Void visitClass(ClassTree tree, Void none) {
            for (Tree member : tree.getMembers()) {
                fine("5", member, !(member instanceof BlockTree));
            }
            boolean isNested = element().getEnclosingElement().getKind() != ElementKind.PACKAGE;
            fine("2", tree, !isNested || element().getModifiers().contains(Modifier.STATIC));
            return super.visitClass(tree, none);
        }

        // ---- rule 3: types ----

        @Override
        public Void visitVariable(VariableTree tree, Void none) {
            TypeMirror type = trees.getTypeMirror(getCurrentPath());
            fine("3", tree, isFineType(type, 0));
            Set<Modifier> modifiers = element().getModifiers();
            if (modifiers.contains(Modifier.STATIC)) {
                fine("5", tree, modifiers.contains(Modifier.FINAL) && isConstantType(type));
            }
            return super.visitVariable(tree, none);
        }

        private boolean isFineType(TypeMirror type, int dimensions) {
            if (type.getKind() == TypeKind.ARRAY) {
                return dimensions < 2 && isFineType(((ArrayType) type).getComponentType(), dimensions + 1);
            }
            boolean isText = type.toString().equals("java.lang.String");
            boolean isOwnType = type.toString().startsWith("Katacode.");
            return type.getKind().isPrimitive() || dimensions == 0 && isText || dimensions < 2 && isOwnType;
        }

        private static boolean isConstantType(TypeMirror type) {
            return Set.of("int", "long", "boolean", "char", "java.lang.String", "int[]", "long[]", "char[]", "byte[]")
                .contains(type.toString());
        }

        @Override
        public Void visitTypeCast(TypeCastTree tree, Void none) {
            fine("6", tree, trees.getTypeMirror(getCurrentPath()).getKind().isPrimitive());
            return super.visitTypeCast(tree, none);
        }

        @Override
        public Void visitLiteral(LiteralTree tree, Void none) {
            if (tree.getValue() instanceof String text) {
                fine("4", tree, text.chars().allMatch(sign -> sign >= 1 && sign <= 127));
            }
            return super.visitLiteral(tree, none);
        }

        @Override
        public Void visitBinary(BinaryTree tree, Void none) {
            TypeMirror type = trees.getTypeMirror(getCurrentPath());
            fine("10", tree, type.getKind().isPrimitive());
            return super.visitBinary(tree, none);
        }

        // ---- rules 4, 8, 11 and 12: calls and objects ----

        @Override
        public Void visitMethod(MethodTree tree, Void none) {
            isConstructor = element().getKind() == ElementKind.CONSTRUCTOR;
            method = nameOf(element());
            calls.putIfAbsent(method, new TreeSet<>());
            long first = line(trees.getSourcePositions().getStartPosition(unit, tree));
            long last = line(trees.getSourcePositions().getEndPosition(unit, tree));
            fine("11", tree, last - first < LONGEST && tree.getParameters().size() <= 7);
            fine("6", tree, !Set.of("equals", "hashCode", "toString").contains(tree.getName().toString()));
            super.visitMethod(tree, none);
            isConstructor = false;
            method = "";
            return null;
        }

        private static String nameOf(Element element) {
            return ((TypeElement) element.getEnclosingElement()).getQualifiedName() + "." + element;
        }

        @Override
        public Void visitMethodInvocation(MethodInvocationTree tree, Void none) {
            ExecutableElement called = (ExecutableElement) element();
            boolean isSuper = called.getKind() == ElementKind.CONSTRUCTOR;
            if (isOwn(called)) {
                calls.computeIfAbsent(method, name -> new TreeSet<>()).add(nameOf(called));
            } else if (!isSuper) {
                boolean isText = called.getEnclosingElement().toString().equals("java.lang.String");
                fine("4", tree, isText && LIBRARY.contains(called.getSimpleName().toString()));
            }
            return super.visitMethodInvocation(tree, none);
        }

        @Override
        public Void visitNewClass(NewClassTree tree, Void none) {
            boolean isThrown = getCurrentPath().getParentPath().getLeaf() instanceof ThrowTree;
            fine("4", tree, isThrown || isOwn(element()));
            if (isOwn(element())) {
                calls.computeIfAbsent(method, name -> new TreeSet<>()).add(nameOf(element()));
            }
            fine("12", tree, isThrown || loops == 0 || isConstructor);
            fine("2", tree, tree.getClassBody() == null);
            return super.visitNewClass(tree, none);
        }

        @Override
        public Void visitNewArray(NewArrayTree tree, Void none) {
            // Rows of a constant length, made once with the object that holds them.
            fine("12", tree, method.isEmpty() && tree.getDimensions().size() == 1);
            fine("7", tree, tree.getDimensions().get(0).toString().startsWith("MOST_"));
            return super.visitNewArray(tree, none);
        }

        void looksAtCalls() {
            check.words("rules 8 and 11");
            for (String name : calls.keySet()) {
                check.same("calls from " + name + " at most " + DEEPEST + " deep", depthOf(name, 1) <= DEEPEST, true);
            }
        }

        /** A chain that comes back to where it was is deeper than any depth that is allowed. */
        private int depthOf(String name, int level) {
            if (level > DEEPEST) {
                return 1;
            }
            Integer known = deep.get(name);
            if (known != null) {
                return known;
            }
            int below = 0;
            for (String called : calls.getOrDefault(name, Set.of())) {
                below = Math.max(below, depthOf(called, level + 1));
            }
            if (level + below <= DEEPEST) {
                deep.put(name, below + 1);
            }
            return below + 1;
        }

        // ---- rule 6: exceptions ----

        @Override
        public Void visitThrow(ThrowTree tree, Void none) {
            ExpressionTree thrown = tree.getExpression();
            boolean isFine = thrown instanceof NewClassTree made
                && EXCEPTIONS.contains(made.getIdentifier().toString())
                && (made.getArguments().isEmpty() || made.getArguments().get(0) instanceof LiteralTree);
            fine("6", tree, isFine && !isConstructor);
            return super.visitThrow(tree, none);
        }

        @Override
        public Void visitTry(TryTree tree, Void none) {
            fine("6", tree, false);
            return super.visitTry(tree, none);
        }

        @Override
        public Void visitSynchronized(SynchronizedTree tree, Void none) {
            fine("6", tree, false);
            return super.visitSynchronized(tree, none);
        }

        @Override
        public Void visitAssert(AssertTree tree, Void none) {
            fine("6", tree, false);
            return super.visitAssert(tree, none);
        }

        // ---- rules 2 and 9: loops and lambdas ----

        @Override
        public Void visitForLoop(ForLoopTree tree, Void none) {
            boolean isCounted = tree.getInitializer().size() == 1 && tree.getUpdate().size() == 1
                && tree.getCondition() != null;
            fine("9", tree, isCounted);
            loops++;
            super.visitForLoop(tree, none);
            loops--;
            return null;
        }

        @Override
        public Void visitEnhancedForLoop(EnhancedForLoopTree tree, Void none) {
            loops++;
            super.visitEnhancedForLoop(tree, none);
            loops--;
            return null;
        }

        @Override
        public Void visitWhileLoop(WhileLoopTree tree, Void none) {
            fine("9", tree, false);
            return super.visitWhileLoop(tree, none);
        }

        @Override
        public Void visitDoWhileLoop(DoWhileLoopTree tree, Void none) {
            fine("9", tree, false);
            return super.visitDoWhileLoop(tree, none);
        }

        @Override
        public Void visitLambdaExpression(LambdaExpressionTree tree, Void none) {
            fine("2", tree, false);
            return super.visitLambdaExpression(tree, none);
        }

        @Override
        public Void visitMemberReference(MemberReferenceTree tree, Void none) {
            fine("2", tree, false);
            return super.visitMemberReference(tree, none);
        }
    }
}
