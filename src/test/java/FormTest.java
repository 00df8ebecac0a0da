import com.sun.source.tree.AssertTree;
import com.sun.source.tree.BinaryTree;
import com.sun.source.tree.BlockTree;
import com.sun.source.tree.ClassTree;
import com.sun.source.tree.CompilationUnitTree;
import com.sun.source.tree.CompoundAssignmentTree;
import com.sun.source.tree.DoWhileLoopTree;
import com.sun.source.tree.ForLoopTree;
import com.sun.source.tree.ImportTree;
import com.sun.source.tree.LambdaExpressionTree;
import com.sun.source.tree.LiteralTree;
import com.sun.source.tree.MemberReferenceTree;
import com.sun.source.tree.MethodInvocationTree;
import com.sun.source.tree.MethodTree;
import com.sun.source.tree.NewArrayTree;
import com.sun.source.tree.NewClassTree;
import com.sun.source.tree.SynchronizedTree;
import com.sun.source.tree.ThrowTree;
import com.sun.source.tree.Tree;
import com.sun.source.tree.TryTree;
import com.sun.source.tree.TypeCastTree;
import com.sun.source.tree.VariableTree;
import com.sun.source.tree.WhileLoopTree;
import com.sun.source.util.JavacTask;
import com.sun.source.util.TreePath;
import com.sun.source.util.TreePathScanner;
import com.sun.source.util.Trees;
import java.io.File;
import java.nio.charset.StandardCharsets;
import java.nio.file.Files;
import java.util.ArrayList;
import java.util.HashMap;
import java.util.HashSet;
import java.util.List;
import java.util.Map;
import java.util.Set;
import javax.lang.model.element.Element;
import javax.lang.model.element.ElementKind;
import javax.lang.model.element.Modifier;
import javax.lang.model.type.ArrayType;
import javax.lang.model.type.TypeKind;
import javax.lang.model.type.TypeMirror;
import javax.tools.JavaCompiler;
import javax.tools.StandardJavaFileManager;
import javax.tools.ToolProvider;

/**
 * The rules of LANGUAGE.md, held against src/main/java/RowBack.java by its trees.
 * Where the program keeps to less than a rule leaves, the test asks for less, too:
 * no recursion, no cast but to numbers, and nothing made outside of constructors.
 */
public final class FormTest {
    private static final File PROGRAM = new File("src/main/java/RowBack.java");
    private static final Set<String> LIBRARY = Set.of("Arrays.fill", "Arrays.copyOf", "Arrays.copyOfRange", "System.arraycopy",
        "Math.max", "Math.min", "Math.abs", "Math.floorDiv", "Math.floorMod", "Integer.bitCount", "Integer.compare", "Long.compare", "Object.<init>");
    private static final Set<String> IMPORTS = Set.of("java.util.Arrays", "java.util.ArrayList", "java.util.List");
    private static final int LINES = 60, PARAMETERS = 7, DEEP = 8, CLASSES = 12, FIELDS = 20;

    public static void main(String[] args) throws Exception {
        signs();
        trees();
        Check.end();
    }

    private static void no(String rule, String what) {
        Check.due("rule " + rule + ": " + what, 1, 0);
    }

    private static void signs() throws Exception {
        String program = Files.readString(PROGRAM.toPath(), StandardCharsets.ISO_8859_1);
        Check.due("rule 4: signs beyond 127", program.chars().filter(sign -> sign == 0 || sign > 127).count(), 0);
        Check.due("without a package line", program.lines().filter(line -> line.startsWith("package")).count(), 0);
    }

    private static void trees() throws Exception {
        JavaCompiler compiler = ToolProvider.getSystemJavaCompiler();
        try (StandardJavaFileManager files = compiler.getStandardFileManager(null, null, null)) {
            JavacTask task = (JavacTask) compiler.getTask(null, files, null, List.of("--release", "17", "-proc:none"), null, files.getJavaFileObjects(PROGRAM));
            Iterable<? extends CompilationUnitTree> units = task.parse();
            task.analyze();
            for (CompilationUnitTree unit : units) {
                Rules rules = new Rules(Trees.instance(task), unit);
                rules.scan(unit, null);
                rules.end();
            }
        }
    }

    private static final class Rules extends TreePathScanner<Void, Void> {
        private final Trees trees;
        private final CompilationUnitTree unit;
        private final Map<Element, Set<Element>> calls = new HashMap<>();
        private final List<ClassTree> classes = new ArrayList<>();
        private Element method;

        Rules(Trees trees, CompilationUnitTree unit) {
            this.trees = trees;
            this.unit = unit;
        }

        void end() {
            Check.due("rule 11: more than " + CLASSES + " classes", Math.max(classes.size(), CLASSES), CLASSES);
            Check.due("the file has been read", classes.size() > 1 && calls.size() > 30 ? 1 : 0, 1);
            for (Element each : calls.keySet()) {
                if (depth(each, new HashSet<>()) > DEEP) no("11", "calls go deeper than " + DEEP + " from " + each);
            }
        }

        private int depth(Element from, Set<Element> open) {
            if (!open.add(from)) {
                no("8", "recursion of " + from);
                return 0;
            }
            int deepest = 0;
            for (Element to : calls.getOrDefault(from, Set.of())) {
                deepest = Math.max(deepest, depth(to, open));
            }
            open.remove(from);
            return deepest + 1;
        }

        private String at(Tree tree) {
            long place = trees.getSourcePositions().getStartPosition(unit, tree);
            return "line " + unit.getLineMap().getLineNumber(place);
        }

        private long lines(Tree tree) {
            long from = trees.getSourcePositions().getStartPosition(unit, tree);
            long to = trees.getSourcePositions().getEndPosition(unit, tree);
            return unit.getLineMap().getLineNumber(to) - unit.getLineMap().getLineNumber(from) + 1;
        }

        private Element element(Tree tree) {
            return trees.getElement(new TreePath(getCurrentPath(), tree));
        }

        @Override public Void visitImport(ImportTree tree, Void none) {
            String name = tree.getQualifiedIdentifier().toString();
            if (tree.isStatic() || !IMPORTS.contains(name)) no("4", "import of " + name);
            return null;
        }

        @Override public Void visitClass(ClassTree tree, Void none) {
            classes.add(tree);
            boolean outer = getCurrentPath().getParentPath().getLeaf() instanceof CompilationUnitTree;
            boolean inside = getCurrentPath().getParentPath().getLeaf() instanceof ClassTree;
            Set<Modifier> modifiers = tree.getModifiers().getFlags();
            if (!outer && !inside) no("2", "a local class at " + at(tree));
            if (inside && tree.getKind() == Tree.Kind.CLASS && !modifiers.contains(Modifier.STATIC)) no("2", "a class that is not static at " + at(tree));
            int fields = 0;
            for (Tree member : tree.getMembers()) {
                if (member instanceof BlockTree) no("5", "a block of a class at " + at(member));
                if (member instanceof VariableTree field && !field.getModifiers().getFlags().contains(Modifier.STATIC)) fields++;
            }
            if (fields > FIELDS) no("11", fields + " fields of " + tree.getSimpleName());
            return super.visitClass(tree, none);
        }

        @Override public Void visitMethod(MethodTree tree, Void none) {
            Element outer = method;
            method = trees.getElement(getCurrentPath());
            calls.putIfAbsent(method, new HashSet<>());
            if (lines(tree) > LINES) no("11", tree.getName() + " has " + lines(tree) + " lines");
            if (tree.getParameters().size() > PARAMETERS) no("11", tree.getName() + " takes " + tree.getParameters().size());
            if (Set.of("equals", "hashCode", "toString").contains(tree.getName().toString())) no("6", "an own " + tree.getName());
            if (!tree.getThrows().isEmpty()) no("6", tree.getName() + " throws");
            super.visitMethod(tree, none);
            method = outer;
            return null;
        }

        @Override public Void visitVariable(VariableTree tree, Void none) {
            Element variable = trees.getElement(getCurrentPath());
            Set<Modifier> modifiers = tree.getModifiers().getFlags();
            boolean fixed = modifiers.contains(Modifier.STATIC);
            if (fixed && !modifiers.contains(Modifier.FINAL)) no("5", "a static field that is not final: " + tree.getName());
            if (fixed && !variable.asType().getKind().isPrimitive()) no("5", "a static field of type " + variable.asType());
            if (!isAllowed(variable.asType(), 0)) no("3", tree.getName() + " is of type " + variable.asType());
            return super.visitVariable(tree, none);
        }

        private boolean isAllowed(TypeMirror type, int dimensions) {
            if (type.getKind() == TypeKind.ARRAY) return isAllowed(((ArrayType) type).getComponentType(), dimensions + 1);
            if (type.getKind().isPrimitive()) return dimensions <= 2;
            return dimensions <= 1 && type.toString().startsWith("RowBack");
        }

        @Override public Void visitMethodInvocation(MethodInvocationTree tree, Void none) {
            Element called = element(tree.getMethodSelect());
            Element owner = called.getEnclosingElement();
            if (owner.toString().startsWith("RowBack")) {
                calls.computeIfAbsent(method, each -> new HashSet<>()).add(called);
            } else if (!LIBRARY.contains(owner.getSimpleName() + "." + called.getSimpleName())) {
                no("4", owner + "." + called + " at " + at(tree));
            }
            return super.visitMethodInvocation(tree, none);
        }

        @Override public Void visitNewClass(NewClassTree tree, Void none) {
            if (tree.getClassBody() != null) no("2", "an anonymous class at " + at(tree));
            makes(tree);
            Element made = trees.getElement(getCurrentPath());
            if (method != null) calls.get(method).add(made);
            return super.visitNewClass(tree, none);
        }

        @Override public Void visitNewArray(NewArrayTree tree, Void none) {
            makes(tree);
            return super.visitNewArray(tree, none);
        }

        private void makes(Tree tree) {
            if (method != null && method.getKind() != ElementKind.CONSTRUCTOR) no("12", "an object is made by a call at " + at(tree));
        }

        @Override public Void visitForLoop(ForLoopTree tree, Void none) {
            if (tree.getCondition() == null) no("9", "a loop without a bound at " + at(tree));
            return super.visitForLoop(tree, none);
        }

        @Override public Void visitWhileLoop(WhileLoopTree tree, Void none) {
            if (tree.getCondition().toString().equals("(true)")) no("9", "a loop without a bound at " + at(tree));
            return super.visitWhileLoop(tree, none);
        }

        @Override public Void visitDoWhileLoop(DoWhileLoopTree tree, Void none) {
            if (tree.getCondition().toString().equals("(true)")) no("9", "a loop without a bound at " + at(tree));
            return super.visitDoWhileLoop(tree, none);
        }

        @Override public Void visitThrow(ThrowTree tree, Void none) {
            no("6", "throw at " + at(tree));
            return null;
        }

        @Override public Void visitTry(TryTree tree, Void none) {
            no("6", "try at " + at(tree));
            return null;
        }

        @Override public Void visitSynchronized(SynchronizedTree tree, Void none) {
            no("6", "synchronized at " + at(tree));
            return null;
        }

        @Override public Void visitAssert(AssertTree tree, Void none) {
            no("6", "assert at " + at(tree));
            return null;
        }

        @Override public Void visitLambdaExpression(LambdaExpressionTree tree, Void none) {
            no("2", "a lambda at " + at(tree));
            return null;
        }

        @Override public Void visitMemberReference(MemberReferenceTree tree, Void none) {
            no("2", "a method reference at " + at(tree));
            return null;
        }

        @Override public Void visitTypeCast(TypeCastTree tree, Void none) {
            TypeMirror to = trees.getTypeMirror(new TreePath(getCurrentPath(), tree.getType()));
            if (!to.getKind().isPrimitive()) no("6", "a cast to " + to + " at " + at(tree));
            return super.visitTypeCast(tree, none);
        }

        @Override public Void visitLiteral(LiteralTree tree, Void none) {
            if (tree.getValue() instanceof String) no("10", "a text at " + at(tree));
            return null;
        }

        @Override public Void visitBinary(BinaryTree tree, Void none) {
            divides(tree.getKind(), tree.getRightOperand(), tree);
            return super.visitBinary(tree, none);
        }

        @Override public Void visitCompoundAssignment(CompoundAssignmentTree tree, Void none) {
            divides(tree.getKind(), tree.getExpression(), tree);
            return super.visitCompoundAssignment(tree, none);
        }

        /** A divisor of this program is a constant or a number other than 0. */
        private void divides(Tree.Kind kind, Tree divisor, Tree tree) {
            boolean divides = Set.of(Tree.Kind.DIVIDE, Tree.Kind.REMAINDER, Tree.Kind.DIVIDE_ASSIGNMENT, Tree.Kind.REMAINDER_ASSIGNMENT).contains(kind);
            if (!divides) return;
            Object value = divisor instanceof LiteralTree literal ? literal.getValue() : constant(element(divisor));
            if (!(value instanceof Integer number) || number == 0) no("7", "a divisor that may be 0 at " + at(tree));
        }

        private static Object constant(Element element) {
            return element instanceof javax.lang.model.element.VariableElement variable ? variable.getConstantValue() : null;
        }
    }
}
