import com.sun.source.tree.AssertTree;
import com.sun.source.tree.BinaryTree;
import com.sun.source.tree.BlockTree;
import com.sun.source.tree.ClassTree;
import com.sun.source.tree.CompilationUnitTree;
import com.sun.source.tree.DoWhileLoopTree;
import com.sun.source.tree.EnhancedForLoopTree;
import com.sun.source.tree.ForLoopTree;
import com.sun.source.tree.ImportTree;
import com.sun.source.tree.LambdaExpressionTree;
import com.sun.source.tree.LiteralTree;
import com.sun.source.tree.MemberReferenceTree;
import com.sun.source.tree.MethodInvocationTree;
import com.sun.source.tree.MethodTree;
import com.sun.source.tree.NewArrayTree;
import com.sun.source.tree.NewClassTree;
import com.sun.source.tree.SwitchExpressionTree;
import com.sun.source.tree.SwitchTree;
import com.sun.source.tree.SynchronizedTree;
import com.sun.source.tree.ThrowTree;
import com.sun.source.tree.Tree;
import com.sun.source.tree.TryTree;
import com.sun.source.tree.TypeCastTree;
import com.sun.source.tree.VariableTree;
import com.sun.source.tree.WhileLoopTree;
import com.sun.source.util.JavacTask;
import com.sun.source.util.SourcePositions;
import com.sun.source.util.TreePath;
import com.sun.source.util.TreePathScanner;
import com.sun.source.util.Trees;
import java.io.IOException;
import java.nio.file.Path;
import java.util.ArrayList;
import java.util.HashMap;
import java.util.List;
import java.util.Map;
import java.util.Set;
import java.util.TreeSet;
import javax.lang.model.element.Element;
import javax.lang.model.element.Modifier;
import javax.tools.JavaCompiler;
import javax.tools.StandardJavaFileManager;
import javax.tools.ToolProvider;

/**
 * The source keeps to ../shared/LANGUAGE.md, as far as that can be seen tree by tree. Of what the rules leave free, it
 * allows only what the class uses by now: a new type, library call or kind of loop wants to be added here, by its rule.
 */
public final class LanguageTest {
    private static final Path SOURCE = Path.of("src", "main", "java", "CypherRing.java");
    private static final String OUTER = "CypherRing";

    private static final Set<String> IMPORTS = Set.of("java.util.Arrays", "java.util.NoSuchElementException");
    private static final Set<String> TYPES = Set.of("int", "long", "char", "boolean", "int[]", "boolean[]");
    private static final Set<String> STATIC_TYPES = Set.of("int", "long");
    private static final Set<String> CASTS = Set.of("float", "double");
    private static final Set<String> LIBRARY = Set.of("java.lang.Object.<init>", "java.lang.Math.abs",
            "java.lang.Math.max", "java.lang.Math.min", "java.lang.Integer.bitCount", "java.lang.Integer.compare",
            "java.lang.System.arraycopy", "java.util.Arrays.fill");
    private static final Set<String> EXCEPTIONS = Set.of("IllegalStateException", "IllegalArgumentException",
            "IndexOutOfBoundsException", "ArithmeticException", "UnsupportedOperationException",
            "NoSuchElementException");

    private static final int MOST_CLASSES = 12;
    private static final int MOST_FIELDS = 20;
    private static final int MOST_PARAMETERS = 7;
    private static final int MOST_LINES = 60;
    private static final int DEEPEST_CALL = 8;
    private static final int LAST_SIGN = 127;

    private LanguageTest() {
    }

    public static void main(String[] args) throws IOException {
        JavaCompiler compiler = ToolProvider.getSystemJavaCompiler();
        try (StandardJavaFileManager files = compiler.getStandardFileManager(null, null, null)) {
            JavacTask task = (JavacTask) compiler.getTask(null, files, null, List.of("-proc:none"), null,
                    files.getJavaFileObjects(SOURCE));
            CompilationUnitTree unit = task.parse().iterator().next();
            task.analyze();
            Reader reader = new Reader(unit, Trees.instance(task));
            Check.due("what is against LANGUAGE.md", "", reader::faultsOfTheFile);
        }
        Check.end();
    }

    /** Goes through the source and keeps what is against a rule. */
    private static final class Reader extends TreePathScanner<Void, Void> {
        private final List<String> faults = new ArrayList<>();
        private final CompilationUnitTree unit;
        private final Trees trees;
        private final SourcePositions positions;
        private final Set<String> own = new TreeSet<>();
        private final Set<String> publicNames = new TreeSet<>();
        private final Set<String> privateNames = new TreeSet<>();
        private final Map<String, Set<String>> callsOf = new HashMap<>();

        Reader(CompilationUnitTree unit, Trees trees) {
            this.unit = unit;
            this.trees = trees;
            positions = trees.getSourcePositions();
        }

        String faultsOfTheFile() {
            ClassTree outer = (ClassTree) unit.getTypeDecls().get(0);
            own.add(OUTER);
            for (Tree member : outer.getMembers()) {
                if (member instanceof ClassTree) {
                    own.add(((ClassTree) member).getSimpleName().toString());
                }
            }
            must(unit.getPackageName() == null, 1, "a package line", unit);
            must(unit.getTypeDecls().size() == 1, 1, "one class beside another", unit);
            must(own.size() <= MOST_CLASSES, 11, "too many classes", unit);
            scan(unit, null);
            for (String name : privateNames) {
                must(!publicNames.contains(name), 1, "a private method with the name of a public one: " + name, unit);
            }
            for (String method : callsOf.keySet()) {
                must(depth(method, 1) <= DEEPEST_CALL, 11, "calls go too deep, or round: " + method, unit);
            }
            return String.join("\n", faults);
        }

        private void must(boolean holds, int rule, String what, Tree where) {
            if (!holds) {
                faults.add("rule " + rule + ": " + what + ", line " + firstLine(where));
            }
        }

        private long firstLine(Tree tree) {
            return unit.getLineMap().getLineNumber(Math.max(0, positions.getStartPosition(unit, tree)));
        }

        private long lastLine(Tree tree) {
            return unit.getLineMap().getLineNumber(Math.max(0, positions.getEndPosition(unit, tree) - 1));
        }

        /* How deep the calls of a method go; those that go round go deeper than any limit. */
        private int depth(String method, int above) {
            int deepest = 1;
            for (String called : callsOf.getOrDefault(method, Set.of())) {
                deepest = above > DEEPEST_CALL ? above : Math.max(deepest, 1 + depth(called, above + 1));
            }
            return deepest;
        }

        private String typeOf(Tree tree) {
            return String.valueOf(trees.getTypeMirror(new TreePath(getCurrentPath(), tree)));
        }

        private MethodTree methodAround() {
            for (TreePath path = getCurrentPath(); path != null; path = path.getParentPath()) {
                if (path.getLeaf() instanceof MethodTree) {
                    return (MethodTree) path.getLeaf();
                }
            }
            return null;
        }

        private boolean isIn(Class<? extends Tree> kind) {
            for (TreePath path = getCurrentPath().getParentPath(); path != null; path = path.getParentPath()) {
                if (kind.isInstance(path.getLeaf())) {
                    return true;
                }
            }
            return false;
        }

        private static boolean isConstructor(MethodTree method) {
            return method != null && method.getReturnType() == null;
        }

        @Override
        public Void visitImport(ImportTree tree, Void none) {
            must(IMPORTS.contains(tree.getQualifiedIdentifier().toString()), 4, "import", tree);
            return super.visitImport(tree, none);
        }

        @Override
        public Void visitClass(ClassTree tree, Void none) {
            Set<Modifier> modifiers = tree.getModifiers().getFlags();
            if (tree.getSimpleName().contentEquals(OUTER)) {
                must(modifiers.equals(Set.of(Modifier.PUBLIC, Modifier.FINAL)), 1, "the class's modifiers", tree);
            } else {
                must(own.contains(tree.getSimpleName().toString()), 2, "a class that is not right inside", tree);
                must(modifiers.contains(Modifier.STATIC), 1, "a class inside that is not static", tree);
                must(!modifiers.contains(Modifier.PUBLIC) && !modifiers.contains(Modifier.PROTECTED), 1,
                        "a class inside that can be seen", tree);
            }
            int fields = 0;
            for (Tree member : tree.getMembers()) {
                must(!(member instanceof BlockTree), 5, "an initialiser block", member);
                if (member instanceof VariableTree
                        && !((VariableTree) member).getModifiers().getFlags().contains(Modifier.STATIC)) {
                    fields++;
                }
            }
            must(fields <= MOST_FIELDS, 11, "too many fields", tree);
            return super.visitClass(tree, none);
        }

        @Override
        public Void visitMethod(MethodTree tree, Void none) {
            Set<Modifier> modifiers = tree.getModifiers().getFlags();
            boolean isOuter = ((ClassTree) getCurrentPath().getParentPath().getLeaf()).getSimpleName()
                    .contentEquals(OUTER);
            boolean isPublic = modifiers.contains(Modifier.PUBLIC);
            must(!isOuter || isPublic || modifiers.contains(Modifier.PRIVATE), 1, "a method that can be seen", tree);
            (isOuter && isPublic ? publicNames : privateNames).add(
                    isConstructor(tree) ? tree.getName() + " " + isPublic : tree.getName().toString());
            must(tree.getParameters().size() <= MOST_PARAMETERS, 11, "too many parameters", tree);
            must(lastLine(tree) - firstLine(tree) < MOST_LINES, 11, "a long method", tree);
            return super.visitMethod(tree, none);
        }

        @Override
        public Void visitVariable(VariableTree tree, Void none) {
            String type = String.valueOf(tree.getType());
            Set<Modifier> modifiers = tree.getModifiers().getFlags();
            must(TYPES.contains(type) || own.contains(type), 3, "the type " + type, tree);
            if (modifiers.contains(Modifier.STATIC)) {
                must(modifiers.contains(Modifier.FINAL) && STATIC_TYPES.contains(type), 5, "a static field", tree);
            }
            boolean isFieldOfOuter = getCurrentPath().getParentPath().getLeaf() instanceof ClassTree
                    && ((ClassTree) getCurrentPath().getParentPath().getLeaf()).getSimpleName().contentEquals(OUTER);
            must(!isFieldOfOuter || modifiers.contains(Modifier.PRIVATE), 1, "a field that can be seen", tree);
            return super.visitVariable(tree, none);
        }

        @Override
        public Void visitMethodInvocation(MethodInvocationTree tree, Void none) {
            Element called = trees.getElement(new TreePath(getCurrentPath(), tree.getMethodSelect()));
            String owner = called.getEnclosingElement().toString();
            if (owner.equals(OUTER) || owner.startsWith(OUTER + ".")) {
                note(owner + "." + called);
            } else {
                String name = owner + "." + called.getSimpleName();
                must(LIBRARY.contains(name), 4, name, tree);
                note(name);
            }
            return super.visitMethodInvocation(tree, none);
        }

        private void note(String called) {
            TreePath path = getCurrentPath();
            while (path != null && !(path.getLeaf() instanceof MethodTree)) {
                path = path.getParentPath();
            }
            if (path != null) {
                Element caller = trees.getElement(path);
                callsOf.computeIfAbsent(caller.getEnclosingElement() + "." + caller, key -> new TreeSet<>())
                        .add(called);
            }
        }

        @Override
        public Void visitNewClass(NewClassTree tree, Void none) {
            boolean isThrown = getCurrentPath().getParentPath().getLeaf() instanceof ThrowTree;
            must(tree.getClassBody() == null, 2, "a class without a name", tree);
            must(isThrown || isConstructor(methodAround()), 12, "an object that no constructor makes", tree);
            must(isThrown || own.contains(tree.getIdentifier().toString()), 4, "an object of the library", tree);
            must(isThrown || !isIn(ForLoopTree.class) && !isIn(WhileLoopTree.class), 12, "made in a loop", tree);
            return super.visitNewClass(tree, none);
        }

        @Override
        public Void visitNewArray(NewArrayTree tree, Void none) {
            must(methodAround() == null, 12, "an array that no constructor makes", tree);
            return super.visitNewArray(tree, none);
        }

        @Override
        public Void visitThrow(ThrowTree tree, Void none) {
            must(!isConstructor(methodAround()), 6, "a throw in a constructor", tree);
            boolean isNew = tree.getExpression() instanceof NewClassTree;
            must(isNew, 6, "a throw of what is not new", tree);
            if (isNew) {
                NewClassTree thrown = (NewClassTree) tree.getExpression();
                must(EXCEPTIONS.contains(thrown.getIdentifier().toString()), 6, "an exception", tree);
                must(thrown.getArguments().size() <= 1, 6, "an exception's arguments", tree);
                for (Tree text : thrown.getArguments()) {
                    must(text instanceof LiteralTree, 6, "an exception's text", tree);
                }
            }
            return super.visitThrow(tree, none);
        }

        @Override
        public Void visitForLoop(ForLoopTree tree, Void none) {
            must(tree.getCondition() != null && tree.getCondition().getKind().name().startsWith("LESS_THAN"), 9,
                    "a loop's bound", tree);
            must(tree.getUpdate().size() == 1 && tree.getUpdate().get(0).toString().endsWith("++;"), 9,
                    "a loop's counter", tree);
            return super.visitForLoop(tree, none);
        }

        @Override
        public Void visitWhileLoop(WhileLoopTree tree, Void none) {
            must(tree.getCondition().toString().matches("\\((\\w+) < \\w+ && .*"), 9, "a loop's bound", tree);
            must(tree.getStatement().toString().matches("\\{\\s*\\w+\\+\\+;\\s*}"), 9, "a loop's counter", tree);
            return super.visitWhileLoop(tree, none);
        }

        @Override
        public Void visitBinary(BinaryTree tree, Void none) {
            boolean isText = typeOf(tree.getLeftOperand()).equals("java.lang.String")
                    || typeOf(tree.getRightOperand()).equals("java.lang.String");
            must(!isText, 10, "a text joined or compared", tree);
            return super.visitBinary(tree, none);
        }

        @Override
        public Void visitLiteral(LiteralTree tree, Void none) {
            for (char sign : String.valueOf(tree.getValue()).toCharArray()) {
                must(sign >= 1 && sign <= LAST_SIGN, 4, "a sign of a text", tree);
            }
            return super.visitLiteral(tree, none);
        }

        @Override
        public Void visitSwitch(SwitchTree tree, Void none) {
            must(typeOf(tree.getExpression()).equals("int"), 10, "what a switch goes by", tree);
            return super.visitSwitch(tree, none);
        }

        @Override
        public Void visitTypeCast(TypeCastTree tree, Void none) {
            must(CASTS.contains(tree.getType().toString()), 6, "a cast", tree);
            return super.visitTypeCast(tree, none);
        }

        @Override
        public Void visitDoWhileLoop(DoWhileLoopTree tree, Void none) {
            must(false, 9, "a do", tree);
            return super.visitDoWhileLoop(tree, none);
        }

        @Override
        public Void visitEnhancedForLoop(EnhancedForLoopTree tree, Void none) {
            must(false, 9, "a for over what is not looked at by this test", tree);
            return super.visitEnhancedForLoop(tree, none);
        }

        @Override
        public Void visitLambdaExpression(LambdaExpressionTree tree, Void none) {
            must(false, 2, "a lambda", tree);
            return super.visitLambdaExpression(tree, none);
        }

        @Override
        public Void visitMemberReference(MemberReferenceTree tree, Void none) {
            must(false, 2, "a method reference", tree);
            return super.visitMemberReference(tree, none);
        }

        @Override
        public Void visitTry(TryTree tree, Void none) {
            must(false, 6, "a try", tree);
            return super.visitTry(tree, none);
        }

        @Override
        public Void visitSynchronized(SynchronizedTree tree, Void none) {
            must(false, 6, "a synchronized", tree);
            return super.visitSynchronized(tree, none);
        }

        @Override
        public Void visitAssert(AssertTree tree, Void none) {
            must(false, 6, "an assert", tree);
            return super.visitAssert(tree, none);
        }

        @Override
        public Void visitSwitchExpression(SwitchExpressionTree tree, Void none) {
            must(false, 10, "a switch that answers", tree);
            return super.visitSwitchExpression(tree, none);
        }
    }
}
