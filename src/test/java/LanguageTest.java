import com.sun.source.tree.BlockTree;
import com.sun.source.tree.ClassTree;
import com.sun.source.tree.CompilationUnitTree;
import com.sun.source.tree.ExpressionTree;
import com.sun.source.tree.LiteralTree;
import com.sun.source.tree.MethodInvocationTree;
import com.sun.source.tree.MethodTree;
import com.sun.source.tree.NewClassTree;
import com.sun.source.tree.ThrowTree;
import com.sun.source.tree.Tree;
import com.sun.source.util.JavacTask;
import com.sun.source.util.TreePath;
import com.sun.source.util.TreePathScanner;
import com.sun.source.util.Trees;
import java.io.IOException;
import java.nio.file.Files;
import java.nio.file.Path;
import java.util.HashMap;
import java.util.LinkedHashSet;
import java.util.List;
import java.util.Map;
import java.util.Set;
import javax.lang.model.element.Element;
import javax.lang.model.element.ElementKind;
import javax.lang.model.element.Modifier;
import javax.lang.model.element.VariableElement;
import javax.tools.JavaCompiler;
import javax.tools.StandardJavaFileManager;
import javax.tools.ToolProvider;

/**
 * The rules of ../shared/LANGUAGE.md that can be seen in the text of the class. It is stricter than
 * they are where the class needs no more: no try, no recursion, few methods of the library.
 */
public final class LanguageTest extends TreePathScanner<Void, Void> {
    private static final String FILE = "src/main/java/WidthMinimizer.java";
    private static final int MOST_PARAMETERS = 7;
    private static final int MOST_LINES = 60;
    private static final int MOST_LEVELS = 8;
    private static final int MOST_CLASSES = 12;
    private static final int MOST_FIELDS = 20;
    private static final int GREATEST_SIGN = 127;
    private static final Set<String> IMPORTS = Set.of("java.util.Arrays", "java.util.NoSuchElementException");
    private static final Set<String> LIBRARY = Set.of("java.lang.Math.max", "java.lang.Math.min",
            "java.lang.Integer.numberOfLeadingZeros", "java.lang.System.arraycopy", "java.util.Arrays.fill");
    private static final Set<String> EXCEPTIONS = Set.of("IllegalStateException", "IllegalArgumentException",
            "IndexOutOfBoundsException", "ArithmeticException", "UnsupportedOperationException",
            "NoSuchElementException", "RuntimeException");
    private static final Set<Tree.Kind> REFUSED = Set.of(Tree.Kind.LAMBDA_EXPRESSION, Tree.Kind.MEMBER_REFERENCE,
            Tree.Kind.TRY, Tree.Kind.SYNCHRONIZED, Tree.Kind.ASSERT, Tree.Kind.INSTANCE_OF, Tree.Kind.TYPE_CAST);
    private static final Set<String> CASTS = Set.of("int", "long", "double");

    private final Trees trees;
    private final CompilationUnitTree unit;
    private final Map<Element, Set<Element>> called = new HashMap<>();
    private int classes = 0;

    private LanguageTest(Trees trees, CompilationUnitTree unit) {
        this.trees = trees;
        this.unit = unit;
    }

    public static void main(String[] args) throws IOException {
        JavaCompiler compiler = ToolProvider.getSystemJavaCompiler();
        StandardJavaFileManager files = compiler.getStandardFileManager(null, null, null);
        JavacTask task = (JavacTask) compiler.getTask(null, files, null, List.of("-proc:none"), null,
                files.getJavaFileObjects(Path.of(FILE)));
        CompilationUnitTree unit = task.parse().iterator().next();
        task.analyze();
        new LanguageTest(Trees.instance(task), unit).look();
        for (byte sign : Files.readAllBytes(Path.of(FILE))) {
            if (sign < 0 || sign > GREATEST_SIGN) {
                Script.report("rule 4: a sign above 127");
            }
        }
        files.close();
        Script.finish();
    }

    private void look() {
        if (unit.getPackageName() != null) {
            Script.report("a package line");
        }
        unit.getImports().forEach(line -> {
            if (!IMPORTS.contains(line.getQualifiedIdentifier().toString())) {
                Script.report("rule 4: " + line);
            }
        });
        scan(new TreePath(unit), null);
        if (classes > MOST_CLASSES) {
            Script.report("rule 11: " + classes + " classes");
        }
        for (Element method : called.keySet()) {
            if (levels(method, MOST_LEVELS + 1) > MOST_LEVELS) {
                Script.report("rule 11: " + method + " goes too deep");
            }
        }
    }

    /** The calls that stand open at once, at most as many as the bound tells. */
    private int levels(Element method, int bound) {
        int most = 0;
        if (bound > 1) {
            for (Element inner : called.getOrDefault(method, Set.of())) {
                most = Math.max(most, levels(inner, bound - 1));
            }
        }
        return most + 1;
    }

    @Override
    public Void scan(Tree tree, Void none) {
        if (tree != null && REFUSED.contains(tree.getKind()) && !isNumberCast(tree)) {
            Script.report("rule 2 or 6: line " + line(tree) + " has a " + tree.getKind());
        }
        return super.scan(tree, none);
    }

    private static boolean isNumberCast(Tree tree) {
        return tree instanceof com.sun.source.tree.TypeCastTree cast && CASTS.contains(cast.getType().toString());
    }

    private long line(Tree tree) {
        return unit.getLineMap().getLineNumber(trees.getSourcePositions().getStartPosition(unit, tree));
    }

    private long lastLine(Tree tree) {
        return unit.getLineMap().getLineNumber(trees.getSourcePositions().getEndPosition(unit, tree));
    }

    @Override
    public Void visitClass(ClassTree tree, Void none) {
        classes++;
        Element self = trees.getElement(getCurrentPath());
        boolean isNested = self.getEnclosingElement().getKind() == ElementKind.CLASS;
        if (isNested && (!self.getModifiers().contains(Modifier.STATIC)
                || self.getModifiers().contains(Modifier.PUBLIC) || self.getModifiers().contains(Modifier.PROTECTED))) {
            Script.report("rule 1: " + self + " is not as a class inside must be");
        }
        int fields = 0;
        for (Element member : self.getEnclosedElements()) {
            boolean isField = member.getKind() == ElementKind.FIELD;
            boolean isStatic = member.getModifiers().contains(Modifier.STATIC);
            if (isField && isStatic && ((VariableElement) member).getConstantValue() == null) {
                Script.report("rule 5: " + member + " is no constant");
            }
            fields += isField && !isStatic ? 1 : 0;
        }
        if (fields > MOST_FIELDS) {
            Script.report("rule 11: " + self + " has " + fields + " fields");
        }
        for (Tree member : tree.getMembers()) {
            if (member instanceof BlockTree) {
                Script.report("rule 5: " + self + " has an initialiser block");
            }
        }
        return super.visitClass(tree, none);
    }

    @Override
    public Void visitMethod(MethodTree tree, Void none) {
        called.put(trees.getElement(getCurrentPath()), new LinkedHashSet<>());
        if (tree.getParameters().size() > MOST_PARAMETERS) {
            Script.report("rule 11: " + tree.getName() + " has too many parameters");
        }
        // What the compiler adds, a constructor, has no last line.
        if (lastLine(tree) - line(tree) + 1 > MOST_LINES) {
            Script.report("rule 11: " + tree.getName() + " is too long");
        }
        return super.visitMethod(tree, none);
    }

    /** The method round the present place, or null if it is the first value of a field. */
    private Element enclosing() {
        TreePath path = getCurrentPath();
        while (path != null && !(path.getLeaf() instanceof MethodTree)) {
            path = path.getParentPath();
        }
        return path == null ? null : trees.getElement(path);
    }

    @Override
    public Void visitMethodInvocation(MethodInvocationTree tree, Void none) {
        Element target = trees.getElement(getCurrentPath());
        boolean isOwn = target.getEnclosingElement().toString().startsWith("WidthMinimizer");
        Element from = enclosing();
        if (isOwn && from != null) {
            called.get(from).add(target);
        }
        boolean isConstructor = target.getKind() == ElementKind.CONSTRUCTOR;
        String name = target.getEnclosingElement() + "." + target.getSimpleName();
        if (!isOwn && !isConstructor && !LIBRARY.contains(name)) {
            Script.report("rule 4: line " + line(tree) + " calls " + name);
        }
        return super.visitMethodInvocation(tree, none);
    }

    @Override
    public Void visitThrow(ThrowTree tree, Void none) {
        ExpressionTree thrown = tree.getExpression();
        boolean isRight = thrown instanceof NewClassTree made
                && EXCEPTIONS.contains(made.getIdentifier().toString())
                && made.getArguments().stream().allMatch(text -> text instanceof LiteralTree);
        Element from = enclosing();
        if (!isRight || from == null || from.getKind() == ElementKind.CONSTRUCTOR) {
            Script.report("rule 6: line " + line(tree));
        }
        return super.visitThrow(tree, none);
    }
}
