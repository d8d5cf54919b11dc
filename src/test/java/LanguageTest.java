import com.sun.source.tree.AnnotationTree;
import com.sun.source.tree.AssertTree;
import com.sun.source.tree.BinaryTree;
import com.sun.source.tree.BlockTree;
import com.sun.source.tree.CatchTree;
import com.sun.source.tree.ClassTree;
import com.sun.source.tree.CompilationUnitTree;
import com.sun.source.tree.CompoundAssignmentTree;
import com.sun.source.tree.EnhancedForLoopTree;
import com.sun.source.tree.ExpressionTree;
import com.sun.source.tree.IdentifierTree;
import com.sun.source.tree.ImportTree;
import com.sun.source.tree.InstanceOfTree;
import com.sun.source.tree.LambdaExpressionTree;
import com.sun.source.tree.LiteralTree;
import com.sun.source.tree.MemberReferenceTree;
import com.sun.source.tree.MethodInvocationTree;
import com.sun.source.tree.MethodTree;
import com.sun.source.tree.NewClassTree;
import com.sun.source.tree.SynchronizedTree;
import com.sun.source.tree.ThrowTree;
import com.sun.source.tree.Tree;
import com.sun.source.tree.TryTree;
import com.sun.source.tree.TypeCastTree;
import com.sun.source.tree.VariableTree;
import com.sun.source.util.JavacTask;
import com.sun.source.util.SourcePositions;
import com.sun.source.util.TreePath;
import com.sun.source.util.TreePathScanner;
import com.sun.source.util.Trees;
import java.nio.file.Path;
import java.util.HashSet;
import java.util.List;
import java.util.Map;
import java.util.Set;
import java.util.TreeMap;
import java.util.TreeSet;
import javax.lang.model.element.Element;
import javax.lang.model.element.ElementKind;
import javax.lang.model.element.ExecutableElement;
import javax.lang.model.element.Modifier;
import javax.lang.model.element.TypeElement;
import javax.lang.model.type.TypeKind;
import javax.lang.model.type.TypeMirror;
import javax.tools.JavaCompiler;
import javax.tools.StandardJavaFileManager;
import javax.tools.ToolProvider;

/**
 * What a reader of the compiled source can tell of LANGUAGE.md's rules 1 to 13, and no more than the class
 * makes use of: what the rules allow but the class never needed is refused here too, to be looked at first.
 */
public final class LanguageTest {
    private static final int MOST_PARAMETERS = 7;
    private static final int MOST_LINES = 60;
    private static final int MOST_CLASSES = 12;
    private static final int MOST_FIELDS = 20;
    private static final int DEEPEST = 8;

    private static final Set<String> IMPORTS = Set.of("java.util.ArrayList", "java.util.NoSuchElementException");
    private static final Set<String> LIBRARY_CALLS = Set.of(
            "ArrayList.add", "ArrayList.get", "ArrayList.size", "String.indexOf",
            "Math.max", "Math.min", "Integer.bitCount", "Object.<init>");
    private static final Set<String> LIBRARY_TYPES = Set.of("ArrayList", "String", "Math", "Integer");
    private static final Set<String> EXCEPTIONS = Set.of("IllegalStateException", "IllegalArgumentException",
            "IndexOutOfBoundsException", "ArithmeticException", "UnsupportedOperationException",
            "NoSuchElementException", "RuntimeException");
    private static final Set<String> CONSTANT_TYPES = Set.of("int", "long", "boolean", "char", "java.lang.String");

    private static final Checks CHECKS = new Checks("LanguageTest");

    public static void main(String[] args) throws Exception {
        Path root = Path.of(System.getProperty("root", "."));
        JavaCompiler compiler = ToolProvider.getSystemJavaCompiler();
        try (StandardJavaFileManager files = compiler.getStandardFileManager(null, null, null)) {
            Path source = root.resolve("src/main/java/MouthpieceRow.java");
            JavacTask task = (JavacTask) compiler.getTask(null, files, null, List.of("-proc:none"), null,
                    files.getJavaFileObjects(source));
            CompilationUnitTree unit = task.parse().iterator().next();
            task.analyze();
            lookAt(unit, Trees.instance(task));
        }
        CHECKS.end();
    }

    private static void lookAt(CompilationUnitTree unit, Trees trees) {
        Reader reader = new Reader(unit, trees);
        reader.scan(unit, null);
        CHECKS.same("rules broken", "", String.join("\n", reader.broken));
        CHECKS.same("no package line (1)", true, unit.getPackageName() == null);
        CHECKS.same("one class in the file (1)", 1, unit.getTypeDecls().size());
        CHECKS.same("classes are " + reader.classes + ", some twelve at most (11)", true,
                reader.classes > 0 && reader.classes <= MOST_CLASSES);
        CHECKS.same("methods were read", true, reader.calls.size() > 50);
        for (String method : reader.calls.keySet()) {
            int depth = depthOf(method, reader.calls, new HashSet<>());
            CHECKS.same(method + " goes " + depth + " deep, eight at most (8, 11)", true, depth <= DEEPEST);
        }
    }

    /** How many calls of own methods stand open at once below a method; no method may come back to itself. */
    private static int depthOf(String method, Map<String, Set<String>> calls, Set<String> open) {
        if (!open.add(method)) {
            return 1000;
        }
        int deepest = 0;
        for (String called : calls.getOrDefault(method, Set.of())) {
            deepest = Math.max(deepest, 1 + depthOf(called, calls, open));
        }
        open.remove(method);
        return deepest;
    }

    /** Notes each place where a rule is broken, and who calls whom. */
    private static final class Reader extends TreePathScanner<Void, Void> {
        final Set<String> broken = new TreeSet<>();
        final Map<String, Set<String>> calls = new TreeMap<>();
        int classes;

        private final CompilationUnitTree unit;
        private final Trees trees;

        Reader(CompilationUnitTree unit, Trees trees) {
            this.unit = unit;
            this.trees = trees;
        }

        private void need(boolean is, int rule, String what, Tree at) {
            if (!is) {
                broken.add("rule " + rule + ", line " + lineOf(startOf(at)) + ": " + what);
            }
        }

        private long startOf(Tree tree) {
            SourcePositions positions = trees.getSourcePositions();
            return positions.getStartPosition(unit, tree);
        }

        private long lineOf(long position) {
            return position < 0 ? 0 : unit.getLineMap().getLineNumber(position);
        }

        private long linesOf(Tree tree) {
            long end = trees.getSourcePositions().getEndPosition(unit, tree);
            return lineOf(end) - lineOf(startOf(tree)) + 1;
        }

        private Element here() {
            return trees.getElement(getCurrentPath());
        }

        private TypeMirror typeOf(Tree tree) {
            return trees.getTypeMirror(new TreePath(getCurrentPath(), tree));
        }

        private boolean isText(Tree tree) {
            TypeMirror type = typeOf(tree);
            return type != null && type.toString().equals("java.lang.String");
        }

        private static boolean isOwn(Element type) {
            return type.toString().equals("MouthpieceRow") || type.toString().startsWith("MouthpieceRow.");
        }

        private MethodTree methodAround() {
            for (TreePath path = getCurrentPath(); path != null; path = path.getParentPath()) {
                if (path.getLeaf() instanceof MethodTree method) {
                    return method;
                }
            }
            return null;
        }

        private static boolean isConstructor(MethodTree method) {
            return method != null && method.getName().contentEquals("<init>");
        }

        private static String nameOf(Element method) {
            return method.getEnclosingElement().getSimpleName() + "." + method.getSimpleName();
        }

        @Override
        public Void visitImport(ImportTree tree, Void nothing) {
            need(!tree.isStatic() && IMPORTS.contains(tree.getQualifiedIdentifier().toString()), 4,
                    "imports " + tree.getQualifiedIdentifier(), tree);
            return null;
        }

        @Override
        public Void visitClass(ClassTree tree, Void nothing) {
            classes++;
            boolean isFace = tree.getSimpleName().contentEquals("MouthpieceRow");
            Set<Modifier> modifiers = tree.getModifiers().getFlags();
            need(tree.getKind() == Tree.Kind.CLASS && (isFace || modifiers.contains(Modifier.STATIC)), 2,
                    "is no static class", tree);
            need(isFace || getCurrentPath().getParentPath().getLeaf() instanceof ClassTree, 2,
                    "stands inside a method", tree);
            need(fieldsOf(tree) <= MOST_FIELDS, 11, "has too many fields", tree);
            return super.visitClass(tree, nothing);
        }

        private static int fieldsOf(ClassTree tree) {
            int fields = 0;
            for (Tree member : tree.getMembers()) {
                if (member instanceof VariableTree field
                        && !field.getModifiers().getFlags().contains(Modifier.STATIC)) {
                    fields++;
                }
            }
            return fields;
        }

        @Override
        public Void visitMethod(MethodTree tree, Void nothing) {
            String name = tree.getName().toString();
            need(tree.getParameters().size() <= MOST_PARAMETERS, 11, "takes too many parameters", tree);
            need(linesOf(tree) <= MOST_LINES, 11, "is too long", tree);
            need(!Set.of("equals", "hashCode", "toString", "finalize").contains(name), 6, "bears " + name, tree);
            Set<Modifier> modifiers = tree.getModifiers().getFlags();
            need(!modifiers.contains(Modifier.SYNCHRONIZED) && !modifiers.contains(Modifier.NATIVE), 6,
                    "is synchronized or native", tree);
            calls.putIfAbsent(nameOf(here()), new TreeSet<>());
            return super.visitMethod(tree, nothing);
        }

        @Override
        public Void visitVariable(VariableTree tree, Void nothing) {
            Element variable = here();
            TypeMirror type = variable.asType();
            if (variable.getKind() == ElementKind.FIELD && variable.getModifiers().contains(Modifier.STATIC)) {
                need(variable.getModifiers().contains(Modifier.FINAL) && tree.getInitializer() != null
                        && CONSTANT_TYPES.contains(type.toString()), 5, "is no constant", tree);
            }
            need(!type.toString().contains("[][]"), 3, "has two dimensions", tree);
            need(type.getKind() != TypeKind.DOUBLE && type.getKind() != TypeKind.FLOAT, 3,
                    "holds a double or float", tree);
            return super.visitVariable(tree, nothing);
        }

        @Override
        public Void visitIdentifier(IdentifierTree tree, Void nothing) {
            if (here() instanceof TypeElement type && !isOwn(type)) {
                String name = type.getSimpleName().toString();
                need(LIBRARY_TYPES.contains(name) || EXCEPTIONS.contains(name), 4, "uses " + name, tree);
            }
            return null;
        }

        @Override
        public Void visitMethodInvocation(MethodInvocationTree tree, Void nothing) {
            called((ExecutableElement) here(), tree);
            return super.visitMethodInvocation(tree, nothing);
        }

        private void called(ExecutableElement method, Tree tree) {
            Element owner = method.getEnclosingElement();
            if (!isOwn(owner)) {
                need(LIBRARY_CALLS.contains(nameOf(method)), 4, "calls " + nameOf(method), tree);
                return;
            }
            MethodTree caller = methodAround();
            if (caller != null) {
                Element from = trees.getElement(trees.getPath(unit, caller));
                calls.computeIfAbsent(nameOf(from), name -> new TreeSet<>()).add(nameOf(method));
            }
        }

        @Override
        public Void visitNewClass(NewClassTree tree, Void nothing) {
            ExecutableElement constructor = (ExecutableElement) here();
            TypeElement made = (TypeElement) constructor.getEnclosingElement();
            String name = made.getSimpleName().toString();
            boolean isThrown = getCurrentPath().getParentPath().getLeaf() instanceof ThrowTree;
            need(tree.getClassBody() == null, 2, "is an anonymous class", tree);
            if (isOwn(made)) {
                called(constructor, tree);
            } else if (isThrown) {
                need(EXCEPTIONS.contains(name) && isWrittenText(tree.getArguments()), 6, "throws " + name, tree);
            } else {
                need(name.equals("ArrayList") && tree.getArguments().isEmpty(), 4, "makes " + name, tree);
            }
            return super.visitNewClass(tree, nothing);
        }

        private static boolean isWrittenText(List<? extends ExpressionTree> arguments) {
            return arguments.isEmpty()
                    || arguments.size() == 1 && arguments.get(0).getKind() == Tree.Kind.STRING_LITERAL;
        }

        @Override
        public Void visitThrow(ThrowTree tree, Void nothing) {
            need(tree.getExpression() instanceof NewClassTree, 6, "throws what was made before", tree);
            need(!isConstructor(methodAround()), 6, "throws in a constructor", tree);
            return super.visitThrow(tree, nothing);
        }

        @Override
        public Void visitBinary(BinaryTree tree, Void nothing) {
            boolean hasText = isText(tree.getLeftOperand()) || isText(tree.getRightOperand());
            need(!hasText, 10, "works on texts with " + tree.getKind(), tree);
            lookAtDivisor(tree, tree.getKind(), tree.getRightOperand());
            return super.visitBinary(tree, nothing);
        }

        /** The two means divide by counts that were tested; everything else divides by a written number. */
        private void lookAtDivisor(Tree tree, Tree.Kind kind, ExpressionTree divisor) {
            boolean divides = Set.of(Tree.Kind.DIVIDE, Tree.Kind.REMAINDER, Tree.Kind.DIVIDE_ASSIGNMENT,
                    Tree.Kind.REMAINDER_ASSIGNMENT).contains(kind);
            TypeKind type = typeOf(divisor) == null ? TypeKind.INT : typeOf(divisor).getKind();
            boolean isFloating = type == TypeKind.DOUBLE || type == TypeKind.FLOAT;
            boolean isWritten = divisor.getKind() == Tree.Kind.INT_LITERAL && !divisor.toString().equals("0");
            need(!divides || isFloating || isWritten, 7, "divides by " + divisor, tree);
        }

        @Override
        public Void visitCompoundAssignment(CompoundAssignmentTree tree, Void nothing) {
            need(!isText(tree.getVariable()), 10, "joins texts", tree);
            lookAtDivisor(tree, tree.getKind(), tree.getExpression());
            return super.visitCompoundAssignment(tree, nothing);
        }

        @Override
        public Void visitLiteral(LiteralTree tree, Void nothing) {
            if (tree.getValue() instanceof String text) {
                need(text.chars().allMatch(sign -> sign >= 1 && sign <= 127), 4, "has a strange sign", tree);
            }
            return null;
        }

        @Override
        public Void visitTypeCast(TypeCastTree tree, Void nothing) {
            need(typeOf(tree.getType()) != null && typeOf(tree.getType()).getKind().isPrimitive(), 7,
                    "casts an object", tree);
            return super.visitTypeCast(tree, nothing);
        }

        @Override
        public Void visitBlock(BlockTree tree, Void nothing) {
            need(!(getCurrentPath().getParentPath().getLeaf() instanceof ClassTree), 5,
                    "is an initialiser block", tree);
            return super.visitBlock(tree, nothing);
        }

        @Override
        public Void visitEnhancedForLoop(EnhancedForLoopTree tree, Void nothing) {
            need(typeOf(tree.getExpression()).getKind() == TypeKind.ARRAY, 12, "makes an iterator", tree);
            return super.visitEnhancedForLoop(tree, nothing);
        }

        @Override
        public Void visitTry(TryTree tree, Void nothing) {
            need(false, 6, "has a try", tree);
            return super.visitTry(tree, nothing);
        }

        @Override
        public Void visitCatch(CatchTree tree, Void nothing) {
            need(false, 6, "has a catch", tree);
            return super.visitCatch(tree, nothing);
        }

        @Override
        public Void visitLambdaExpression(LambdaExpressionTree tree, Void nothing) {
            need(false, 2, "has a lambda", tree);
            return null;
        }

        @Override
        public Void visitMemberReference(MemberReferenceTree tree, Void nothing) {
            need(false, 2, "has a method reference", tree);
            return null;
        }

        @Override
        public Void visitInstanceOf(InstanceOfTree tree, Void nothing) {
            need(false, 6, "has an instanceof", tree);
            return null;
        }

        @Override
        public Void visitAssert(AssertTree tree, Void nothing) {
            need(false, 6, "has an assert", tree);
            return null;
        }

        @Override
        public Void visitSynchronized(SynchronizedTree tree, Void nothing) {
            need(false, 6, "is synchronized", tree);
            return null;
        }

        @Override
        public Void visitAnnotation(AnnotationTree tree, Void nothing) {
            need(false, 4, "has an annotation", tree);
            return null;
        }
    }
}
