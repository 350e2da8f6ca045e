import com.sun.source.tree.BinaryTree;
import com.sun.source.tree.ClassTree;
import com.sun.source.tree.CompilationUnitTree;
import com.sun.source.tree.DoWhileLoopTree;
import com.sun.source.tree.ForLoopTree;
import com.sun.source.tree.LiteralTree;
import com.sun.source.tree.MethodInvocationTree;
import com.sun.source.tree.MethodTree;
import com.sun.source.tree.NewArrayTree;
import com.sun.source.tree.NewClassTree;
import com.sun.source.tree.ThrowTree;
import com.sun.source.tree.Tree;
import com.sun.source.tree.VariableTree;
import com.sun.source.tree.WhileLoopTree;
import com.sun.source.util.JavacTask;
import com.sun.source.util.TreePath;
import com.sun.source.util.TreePathScanner;
import com.sun.source.util.TreeScanner;
import com.sun.source.util.Trees;
import java.io.File;
import java.io.IOException;
import java.util.ArrayList;
import java.util.EnumSet;
import java.util.LinkedHashMap;
import java.util.LinkedHashSet;
import java.util.List;
import java.util.Map;
import java.util.Set;
import javax.lang.model.element.Element;
import javax.lang.model.element.Modifier;
import javax.tools.JavaCompiler;
import javax.tools.StandardJavaFileManager;
import javax.tools.ToolProvider;

/**
 * The rules of LANGUAGE.md that can be read off the class's text. Where the class does without what
 * a rule allows under conditions (try, casts of objects, lists, doubles), it is held to none at all.
 */
public final class LanguageTest extends TreePathScanner<Void, Void> {
    private static final Check CHECK = new Check();

    private static final Set<Tree.Kind> NEVER = EnumSet.of(Tree.Kind.IMPORT, Tree.Kind.TRY,
            Tree.Kind.CATCH, Tree.Kind.LAMBDA_EXPRESSION, Tree.Kind.MEMBER_REFERENCE,
            Tree.Kind.SYNCHRONIZED, Tree.Kind.ASSERT, Tree.Kind.INSTANCE_OF, Tree.Kind.DOUBLE_LITERAL,
            Tree.Kind.FLOAT_LITERAL, Tree.Kind.PARAMETERIZED_TYPE);
    private static final Set<String> LIBRARY = Set.of("Math.max", "Math.min");

    private final CompilationUnitTree unit;
    private final Trees trees;
    private final Map<Element, Set<Element>> calls = new LinkedHashMap<>();
    private final List<Element> face = new ArrayList<>();
    private int classes = 0;
    private int throwsSeen = 0;

    private LanguageTest(CompilationUnitTree unit, Trees trees) {
        this.unit = unit;
        this.trees = trees;
    }

    public static void main(String[] args) throws IOException {
        String source = System.getProperty("room.source", "src/main/java/RoomEchoes.java");
        JavaCompiler compiler = ToolProvider.getSystemJavaCompiler();
        try (StandardJavaFileManager files = compiler.getStandardFileManager(null, null, null)) {
            JavacTask task = (JavacTask) compiler.getTask(null, files, null, null, null,
                    files.getJavaFileObjects(new File(source)));
            CompilationUnitTree unit = task.parse().iterator().next();
            task.analyze();
            LanguageTest test = new LanguageTest(unit, Trees.instance(task));
            test.scan(unit, null);
            test.endOfFile();
        }
        CHECK.end();
    }

    private void endOfFile() {
        CHECK.due("a package line", unit.getPackageName() == null ? 0 : 1, 0);
        CHECK.due("top classes (rule 1)", unit.getTypeDecls().size(), 1);
        holds("some twelve classes at most (rule 11)", classes <= 12);
        CHECK.due("calls of the face", face.size(), 12);
        holds("there is a throw", throwsSeen > 0);
        for (Element method : face) {
            int deep = depth(method, new LinkedHashSet<>());
            holds(method + " goes at most eight deep (rule 11), not " + deep, deep <= 8);
        }
    }

    private static void holds(String rule, boolean held) {
        CHECK.due(rule, held ? 1 : 0, 1);
    }

    private String at(Tree tree) {
        long position = trees.getSourcePositions().getStartPosition(unit, tree);
        return "line " + unit.getLineMap().getLineNumber(position) + ": ";
    }

    private long lines(Tree tree) {
        long from = trees.getSourcePositions().getStartPosition(unit, tree);
        long to = trees.getSourcePositions().getEndPosition(unit, tree);
        return unit.getLineMap().getLineNumber(to) - unit.getLineMap().getLineNumber(from) + 1;
    }

    private Element element(Tree tree) {
        return trees.getElement(TreePath.getPath(unit, tree));
    }

    private <T extends Tree> T around(Class<T> kind) {
        for (TreePath path = getCurrentPath(); path != null; path = path.getParentPath()) {
            if (kind.isInstance(path.getLeaf())) {
                return kind.cast(path.getLeaf());
            }
        }
        return null;
    }

    @Override
    public Void scan(Tree tree, Void nothing) {
        if (tree != null) {
            holds(at(tree) + tree.getKind() + " is not used", !NEVER.contains(tree.getKind()));
        }
        return super.scan(tree, nothing);
    }

    @Override
    public Void visitClass(ClassTree tree, Void nothing) {
        classes++;
        boolean top = tree.getSimpleName().contentEquals("RoomEchoes");
        Set<Modifier> flags = tree.getModifiers().getFlags();
        holds(at(tree) + "a class inside is private and static (rule 1)",
                top || flags.contains(Modifier.PRIVATE) && flags.contains(Modifier.STATIC));
        long fields = tree.getMembers().stream().filter(member -> member instanceof VariableTree field
                && !field.getModifiers().getFlags().contains(Modifier.STATIC)).count();
        holds(at(tree) + "some twenty fields at most (rule 11)", fields <= 20);
        return super.visitClass(tree, nothing);
    }

    @Override
    public Void visitMethod(MethodTree tree, Void nothing) {
        holds(at(tree) + "seven parameters at most (rule 11)", tree.getParameters().size() <= 7);
        holds(at(tree) + "some sixty lines at most (rule 11)", lines(tree) <= 60);
        Element method = element(tree);
        calls.putIfAbsent(method, new LinkedHashSet<>());
        if (tree.getModifiers().getFlags().contains(Modifier.PUBLIC)) {
            face.add(method);
        }
        return super.visitMethod(tree, nothing);
    }

    @Override
    public Void visitVariable(VariableTree tree, Void nothing) {
        Set<Modifier> flags = tree.getModifiers().getFlags();
        holds(at(tree) + "a static field is final (rule 5)",
                !flags.contains(Modifier.STATIC) || flags.contains(Modifier.FINAL));
        String type = String.valueOf(tree.getType());
        holds(at(tree) + type + " is a type in use", Set.of("int", "long", "boolean", "int[]", "long[]",
                "Axis", "Frontier").contains(type));
        return super.visitVariable(tree, nothing);
    }

    @Override
    public Void visitMethodInvocation(MethodInvocationTree tree, Void nothing) {
        Element called = element(tree);
        String from = called.getEnclosingElement().toString();
        String name = called.getSimpleName().toString();
        boolean implied = name.equals("<init>");
        boolean own = from.startsWith("RoomEchoes");
        holds(at(tree) + from + "." + name + " is of the listed library (rule 4)",
                own || implied || LIBRARY.contains(from.replace("java.lang.", "") + "." + name));
        noteCall(called, own);
        return super.visitMethodInvocation(tree, nothing);
    }

    @Override
    public Void visitNewClass(NewClassTree tree, Void nothing) {
        Element called = element(tree);
        boolean own = called.getEnclosingElement().toString().startsWith("RoomEchoes");
        holds(at(tree) + "objects are made in constructors alone (rule 12)",
                !own || around(MethodTree.class) == null || inConstructor());
        noteCall(called, own);
        return super.visitNewClass(tree, nothing);
    }

    @Override
    public Void visitNewArray(NewArrayTree tree, Void nothing) {
        holds(at(tree) + "rows are made in constructors alone (rule 12)",
                around(MethodTree.class) == null || inConstructor());
        return super.visitNewArray(tree, nothing);
    }

    @Override
    public Void visitThrow(ThrowTree tree, Void nothing) {
        throwsSeen++;
        holds(at(tree) + "no throw in a constructor (rule 6)", !inConstructor());
        boolean written = tree.getExpression() instanceof NewClassTree made
                && made.getIdentifier().toString().equals("IllegalArgumentException")
                && made.getArguments().stream().allMatch(text -> text instanceof LiteralTree);
        holds(at(tree) + "a throw is new, with a written text (rule 6)", written);
        return super.visitThrow(tree, nothing);
    }

    @Override
    public Void visitBinary(BinaryTree tree, Void nothing) {
        String type = trees.getTypeMirror(getCurrentPath()).toString();
        holds(at(tree) + "texts are not joined by + (rule 10)", !type.endsWith("String"));
        return super.visitBinary(tree, nothing);
    }

    @Override
    public Void visitWhileLoop(WhileLoopTree tree, Void nothing) {
        stepsByItself(tree.getStatement());
        return super.visitWhileLoop(tree, nothing);
    }

    @Override
    public Void visitDoWhileLoop(DoWhileLoopTree tree, Void nothing) {
        stepsByItself(tree.getStatement());
        return super.visitDoWhileLoop(tree, nothing);
    }

    @Override
    public Void visitForLoop(ForLoopTree tree, Void nothing) {
        holds(at(tree) + "a for has a bound and a step (rule 9)",
                tree.getCondition() != null && !tree.getUpdate().isEmpty());
        tree.getUpdate().forEach(this::stepsByItself);
        return super.visitForLoop(tree, nothing);
    }

    /** How a loop comes nearer to its end can be seen from its own lines if no call makes the step. */
    private void stepsByItself(Tree step) {
        new TreeScanner<Void, Void>() {
            @Override
            public Void visitMethodInvocation(MethodInvocationTree call, Void nothing) {
                holds(at(call) + call + " makes no loop's step (rule 9)", false);
                return null;
            }
        }.scan(step, null);
    }

    private boolean inConstructor() {
        MethodTree method = around(MethodTree.class);
        return method != null && method.getName().contentEquals("<init>");
    }

    private void noteCall(Element called, boolean own) {
        MethodTree method = around(MethodTree.class);
        if (own && method != null) {
            calls.computeIfAbsent(element(method), none -> new LinkedHashSet<>()).add(called);
        }
    }

    /** The most calls that stand open at once; a call that comes back to itself is told as too deep. */
    private int depth(Element method, Set<Element> open) {
        if (!open.add(method)) {
            return 1000;
        }
        int deepest = 0;
        for (Element called : calls.getOrDefault(method, Set.of())) {
            deepest = Math.max(deepest, depth(called, open));
        }
        open.remove(method);
        return 1 + deepest;
    }
}
