import com.sun.source.tree.BinaryTree;
import com.sun.source.tree.ClassTree;
import com.sun.source.tree.CompilationUnitTree;
import com.sun.source.tree.ExpressionTree;
import com.sun.source.tree.ImportTree;
import com.sun.source.tree.MethodInvocationTree;
import com.sun.source.tree.MethodTree;
import com.sun.source.tree.NewClassTree;
import com.sun.source.tree.ThrowTree;
import com.sun.source.tree.Tree;
import com.sun.source.tree.Tree.Kind;
import com.sun.source.tree.VariableTree;
import com.sun.source.util.JavacTask;
import com.sun.source.util.TreePath;
import com.sun.source.util.TreePathScanner;
import com.sun.source.util.Trees;
import java.io.File;
import java.io.IOException;
import java.util.EnumSet;
import java.util.HashMap;
import java.util.HashSet;
import java.util.List;
import java.util.Map;
import java.util.Set;
import java.util.TreeSet;
import javax.lang.model.element.Element;
import javax.lang.model.element.ElementKind;
import javax.lang.model.element.Modifier;
import javax.tools.JavaCompiler;
import javax.tools.StandardJavaFileManager;
import javax.tools.ToolProvider;

/**
 * The class keeps to those rules of LANGUAGE.md that can be read from its text: what it may use of
 * the language and of the library, and how long, how wide and how deep it may be. Of what the rules
 * leave it knows only as much as the class uses: its sets may grow as far as the rules go.
 */
public final class LanguageTest extends TreePathScanner<Void, Void> {
    private static final String CLASS = "src/main/java/GradientDesk.java";
    private static final int MOST_CLASSES = 12, MOST_FIELDS = 20, MOST_LINES = 60, MOST_PARAMETERS = 7, MOST_DEPTH = 8;

    private static final Set<String> IMPORTS = Set.of("java.util.Arrays", "java.util.NoSuchElementException");
    private static final Set<String> LIBRARY = Set.of("Math.abs", "Math.max", "Math.min", "Long.signum",
            "Integer.numberOfLeadingZeros", "System.arraycopy", "Arrays.fill");
    private static final Set<String> EXCEPTIONS = Set.of("IllegalStateException", "IllegalArgumentException",
            "IndexOutOfBoundsException", "NoSuchElementException");
    private static final Set<String> TYPES = Set.of("int", "long", "char", "boolean", "int[]", "char[]", "boolean[]", "int[][]");
    private static final Set<Kind> FORBIDDEN = EnumSet.of(Kind.LAMBDA_EXPRESSION, Kind.MEMBER_REFERENCE, Kind.TRY,
            Kind.SYNCHRONIZED, Kind.ASSERT, Kind.INSTANCE_OF, Kind.TYPE_CAST, Kind.SWITCH_EXPRESSION, Kind.YIELD);

    private final Trees trees;
    private final CompilationUnitTree unit;
    private final Set<String> own = new TreeSet<>();
    private final Map<Element, Set<Element>> calls = new HashMap<>();
    private final Map<Element, Integer> depths = new HashMap<>();
    private int classes;

    private LanguageTest(Trees trees, CompilationUnitTree unit) {
        this.trees = trees;
        this.unit = unit;
        for (Tree type : unit.getTypeDecls()) {
            nameClasses((ClassTree) type);
        }
    }

    public static void main(String[] args) throws IOException {
        JavaCompiler compiler = ToolProvider.getSystemJavaCompiler();
        try (StandardJavaFileManager files = compiler.getStandardFileManager(null, null, null)) {
            JavacTask task = (JavacTask) compiler.getTask(null, files, null, List.of("-proc:none"), null,
                    files.getJavaFileObjects(new File(CLASS)));
            CompilationUnitTree unit = task.parse().iterator().next();
            task.analyze();
            LanguageTest test = new LanguageTest(Trees.instance(task), unit);
            test.scan(unit, null);
            test.lookAtWhole();
        }
        Check.end();
    }

    private void nameClasses(ClassTree type) {
        own.add(type.getSimpleName().toString());
        for (Tree member : type.getMembers()) {
            if (member instanceof ClassTree) {
                nameClasses((ClassTree) member);
            }
        }
    }

    private void lookAtWhole() {
        Check.due("rule 1: a package line", unit.getPackageName() == null ? 0 : 1, 0);
        Check.due("rule 1: classes beside the one", unit.getTypeDecls().size(), 1);
        most("rule 11: classes", classes, MOST_CLASSES);
        for (Element method : calls.keySet()) {
            most("rule 11: calls that stand open at once from " + method, depth(method), MOST_DEPTH);
        }
    }

    private static void most(String what, int got, int most) {
        Check.due(what + " (" + got + ") are more than " + most, got > most ? 1 : 0, 0);
    }

    /** How deep the calls go, with the library's; a recursion is as deep as can be. */
    private int depth(Element method) {
        Integer known = depths.get(method);
        if (known != null) {
            return known;
        }
        depths.put(method, 1000);
        int deepest = 0;
        for (Element called : calls.getOrDefault(method, Set.of())) {
            deepest = Math.max(deepest, depth(called));
        }
        depths.put(method, deepest + 1);
        return deepest + 1;
    }

    @Override
    public Void scan(Tree tree, Void nothing) {
        if (tree != null && FORBIDDEN.contains(tree.getKind()) && !isNumberCast(tree)) {
            Check.due("rules 2 and 6: " + at(tree), tree.getKind().toString(), "nothing of the kind");
        }
        return super.scan(tree, nothing);
    }

    private boolean isNumberCast(Tree tree) {
        String text = tree.toString();
        return tree.getKind() == Kind.TYPE_CAST
                && (text.startsWith("(int)") || text.startsWith("(long)") || text.startsWith("(char)"));
    }

    @Override
    public Void visitImport(ImportTree tree, Void nothing) {
        Check.due("rule 4: " + at(tree), IMPORTS.contains(tree.getQualifiedIdentifier().toString()) ? 1 : 0, 1);
        return super.visitImport(tree, nothing);
    }

    @Override
    public Void visitClass(ClassTree tree, Void nothing) {
        classes++;
        int fields = 0;
        for (Tree member : tree.getMembers()) {
            Check.due("rule 5: a block at " + at(member), member.getKind() == Kind.BLOCK ? 1 : 0, 0);
            if (member instanceof VariableTree) {
                fields += lookAtField((VariableTree) member);
            }
        }
        most("rule 11: fields of " + tree.getSimpleName(), fields, MOST_FIELDS);
        if (getCurrentPath().getParentPath().getLeaf() != unit) {
            Check.due("rule 1: a class inside at " + at(tree), tree.getModifiers().getFlags().toString(), "[private, static, final]");
        }
        return super.visitClass(tree, nothing);
    }

    /** Answers 1 for what an object has, 0 for a constant. */
    private int lookAtField(VariableTree field) {
        Set<Modifier> flags = field.getModifiers().getFlags();
        if (!flags.contains(Modifier.STATIC)) {
            return 1;
        }
        String type = field.getType().toString();
        Check.due("rule 5: " + at(field), flags.contains(Modifier.FINAL) && (type.equals("int") || type.equals("char")) ? 1 : 0, 1);
        return 0;
    }

    @Override
    public Void visitVariable(VariableTree tree, Void nothing) {
        String type = tree.getType().toString();
        boolean isOwn = own.contains(type) || type.endsWith("[]") && own.contains(type.substring(0, type.length() - 2));
        Check.due("rule 3: " + at(tree), isOwn || TYPES.contains(type) ? 1 : 0, 1);
        return super.visitVariable(tree, nothing);
    }

    @Override
    public Void visitMethod(MethodTree tree, Void nothing) {
        Element method = trees.getElement(getCurrentPath());
        calls.put(method, new HashSet<>());
        most("rule 11: parameters of " + tree.getName(), tree.getParameters().size(), MOST_PARAMETERS);
        most("rule 11: lines of " + tree.getName(), line(tree, true) - line(tree, false) + 1, MOST_LINES);
        return super.visitMethod(tree, nothing);
    }

    @Override
    public Void visitMethodInvocation(MethodInvocationTree tree, Void nothing) {
        Element called = trees.getElement(getCurrentPath());
        String owner = called.getEnclosingElement().getSimpleName().toString();
        if (called.getKind() != ElementKind.CONSTRUCTOR) {
            String name = owner + "." + called.getSimpleName();
            Check.due("rule 4: " + at(tree), own.contains(owner) || LIBRARY.contains(name) ? 1 : 0, 1);
        }
        noteCall(called);
        handsOutNothing(tree.getArguments());
        return super.visitMethodInvocation(tree, nothing);
    }

    @Override
    public Void visitNewClass(NewClassTree tree, Void nothing) {
        String type = tree.getIdentifier().toString();
        boolean thrown = getCurrentPath().getParentPath().getLeaf() instanceof ThrowTree;
        Check.due("rules 3 and 6: " + at(tree), (thrown ? EXCEPTIONS : own).contains(type) ? 1 : 0, 1);
        Check.due("rule 2: " + at(tree), tree.getClassBody() == null ? 1 : 0, 1);
        noteCall(trees.getElement(getCurrentPath()));
        handsOutNothing(tree.getArguments());
        return super.visitNewClass(tree, nothing);
    }

    private void noteCall(Element called) {
        Element caller = caller();
        if (caller != null) {
            calls.get(caller).add(called);
        }
    }

    private Element caller() {
        for (TreePath path = getCurrentPath(); path != null; path = path.getParentPath()) {
            if (path.getLeaf() instanceof MethodTree) {
                return trees.getElement(path);
            }
        }
        return null;
    }

    /** Rows of numbers that the library fills are no hand-out; objects of one's own would be. */
    private void handsOutNothing(List<? extends ExpressionTree> arguments) {
        Element caller = caller();
        if (caller == null || caller.getKind() != ElementKind.CONSTRUCTOR) {
            return;
        }
        for (ExpressionTree argument : arguments) {
            String type = String.valueOf(trees.getTypeMirror(new TreePath(getCurrentPath(), argument)));
            Check.due("rule 12: a constructor hands out " + argument, type.startsWith("GradientDesk") ? 1 : 0, 0);
        }
    }

    @Override
    public Void visitThrow(ThrowTree tree, Void nothing) {
        Check.due("rule 6: " + at(tree), tree.getExpression() instanceof NewClassTree ? 1 : 0, 1);
        Check.due("rule 6: " + at(tree), caller().getKind() == ElementKind.CONSTRUCTOR ? 1 : 0, 0);
        return super.visitThrow(tree, nothing);
    }

    @Override
    public Void visitBinary(BinaryTree tree, Void nothing) {
        String type = String.valueOf(trees.getTypeMirror(getCurrentPath()));
        Check.due("rule 10: " + at(tree), type.equals("java.lang.String") ? 1 : 0, 0);
        return super.visitBinary(tree, nothing);
    }

    private int line(Tree tree, boolean last) {
        long position = last ? trees.getSourcePositions().getEndPosition(unit, tree)
                : trees.getSourcePositions().getStartPosition(unit, tree);
        // What the compiler adds, such as a constructor that is not written, has no end in the text.
        return position < 0 ? 0 : (int) unit.getLineMap().getLineNumber(position);
    }

    private String at(Tree tree) {
        return "line " + line(tree, false);
    }
}
