import com.sun.source.tree.AssertTree;
import com.sun.source.tree.BinaryTree;
import com.sun.source.tree.BlockTree;
import com.sun.source.tree.ClassTree;
import com.sun.source.tree.CompilationUnitTree;
import com.sun.source.tree.CompoundAssignmentTree;
import com.sun.source.tree.ImportTree;
import com.sun.source.tree.LambdaExpressionTree;
import com.sun.source.tree.MemberReferenceTree;
import com.sun.source.tree.MethodInvocationTree;
import com.sun.source.tree.MethodTree;
import com.sun.source.tree.NewClassTree;
import com.sun.source.tree.PackageTree;
import com.sun.source.tree.SynchronizedTree;
import com.sun.source.tree.ThrowTree;
import com.sun.source.tree.Tree;
import com.sun.source.tree.TryTree;
import com.sun.source.tree.VariableTree;
import com.sun.source.util.JavacTask;
import com.sun.source.util.TreePath;
import com.sun.source.util.TreePathScanner;
import com.sun.source.util.Trees;
import java.io.IOException;
import java.nio.file.Path;
import java.util.LinkedHashMap;
import java.util.LinkedHashSet;
import java.util.List;
import java.util.Map;
import java.util.Set;
import javax.lang.model.element.Element;
import javax.lang.model.element.ElementKind;
import javax.lang.model.element.Modifier;
import javax.lang.model.element.TypeElement;
import javax.lang.model.type.TypeMirror;
import javax.tools.JavaCompiler;
import javax.tools.StandardJavaFileManager;
import javax.tools.ToolProvider;

/** The rules of LANGUAGE.md that the text of the program shows; each is named by its number. */
public final class LanguageTest extends TreePathScanner<Void, Element> {
    private static final Path PROGRAM = Path.of("src", "main", "java", "ParkTower.java");
    private static final Set<String> LIBRARY = Set.of("java.lang.Math.max", "java.lang.Math.abs");
    private static final Set<String> EXCEPTIONS = Set.of("IllegalStateException", "IllegalArgumentException",
            "IndexOutOfBoundsException");
    private static final Set<String> SIMPLE_STATIC = Set.of("int", "long", "boolean", "char", "java.lang.String");
    private static final Set<String> ENUM_FIELDS = Set.of("int", "long", "boolean", "java.lang.String");

    private final CompilationUnitTree unit;
    private final Trees trees;
    private final Map<Element, Set<Element>> calls = new LinkedHashMap<>();
    private final Set<String> face = new LinkedHashSet<>();
    private int classes;

    private LanguageTest(CompilationUnitTree unit, Trees trees) {
        this.unit = unit;
        this.trees = trees;
    }

    public static void main(String[] args) throws IOException {
        JavaCompiler compiler = ToolProvider.getSystemJavaCompiler();
        try (StandardJavaFileManager files = compiler.getStandardFileManager(null, null, null)) {
            JavacTask task = (JavacTask) compiler.getTask(null, files, null, List.of("-proc:none"), null,
                    files.getJavaFileObjects(PROGRAM));
            CompilationUnitTree unit = task.parse().iterator().next();
            task.analyze();
            new LanguageTest(unit, Trees.instance(task)).read();
        }
        Check.end();
    }

    private void read() {
        scan(unit, null);
        atMost("11: classes", classes, 12);
        for (Element method : calls.keySet()) {
            if (method.getModifiers().contains(Modifier.PUBLIC)) {
                atMost("11: calls open at once behind " + method, depthOf(method, new LinkedHashSet<>()), 8);
            } else if (method.getKind() == ElementKind.METHOD) {
                require("1: another method with the name of a public one", method,
                        !face.contains(method.getSimpleName().toString()));
            }
        }
    }

    private int depthOf(Element method, Set<Element> above) {
        if (!above.add(method)) {
            Check.fail("8: " + method + " calls itself");
            return 0;
        }
        int deepest = 0;
        for (Element called : calls.getOrDefault(method, Set.of())) {
            deepest = Math.max(deepest, depthOf(called, above));
        }
        above.remove(method);
        return deepest + 1;
    }

    @Override
    public Void visitClass(ClassTree tree, Element inside) {
        classes++;
        Element type = trees.getElement(getCurrentPath());
        boolean inner = type.getEnclosingElement().getKind().isClass();
        require("1: a class inside is static", type, !inner || type.getModifiers().contains(Modifier.STATIC));
        require("2: no local or anonymous class", type, !tree.getSimpleName().isEmpty());
        int fields = 0;
        for (Tree member : tree.getMembers()) {
            require("5: no initialiser block", type, !(member instanceof BlockTree));
            if (member instanceof VariableTree) {
                fields += isStatic(trees.getElement(new TreePath(getCurrentPath(), member))) ? 0 : 1;
            }
        }
        atMost("11: fields of " + type, fields, 20);
        return super.visitClass(tree, type);
    }

    @Override
    public Void visitMethod(MethodTree tree, Element inside) {
        Element method = trees.getElement(getCurrentPath());
        calls.putIfAbsent(method, new LinkedHashSet<>());
        if (method.getModifiers().contains(Modifier.PUBLIC)) {
            face.add(method.getSimpleName().toString());
        }
        atMost("11: parameters of " + method, tree.getParameters().size(), 7);
        atMost("11: lines of " + method, linesOf(tree), 60);
        return super.visitMethod(tree, method);
    }

    @Override
    public Void visitVariable(VariableTree tree, Element inside) {
        Element variable = trees.getElement(getCurrentPath());
        if (variable.getKind() == ElementKind.FIELD) {
            field((TypeElement) variable.getEnclosingElement(), variable);
        }
        return super.visitVariable(tree, inside);
    }

    private void field(TypeElement owner, Element field) {
        String type = field.asType().toString();
        require("1: a field is private", field, field.getModifiers().contains(Modifier.PRIVATE));
        if (isStatic(field)) {
            require("5: a static field is final", field, field.getModifiers().contains(Modifier.FINAL));
            require("5: a static field is a simple constant", field, SIMPLE_STATIC.contains(type));
        } else if (owner.getKind() == ElementKind.ENUM) {
            require("2: an enum's field", field, ENUM_FIELDS.contains(type));
        }
    }

    @Override
    public Void visitMethodInvocation(MethodInvocationTree tree, Element inside) {
        called(trees.getElement(getCurrentPath()), inside);
        return super.visitMethodInvocation(tree, inside);
    }

    @Override
    public Void visitNewClass(NewClassTree tree, Element inside) {
        called(trees.getElement(getCurrentPath()), inside);
        return super.visitNewClass(tree, inside);
    }

    private void called(Element method, Element inside) {
        Element owner = method.getEnclosingElement();
        boolean constructor = method.getKind() == ElementKind.CONSTRUCTOR;
        if (owner.toString().startsWith("ParkTower")) {
            calls.computeIfAbsent(inside, any -> new LinkedHashSet<>()).add(method);
        } else if (constructor) {
            boolean above = owner.toString().equals("java.lang.Object") || owner.toString().equals("java.lang.Enum");
            require("6: an exception of the list", owner,
                    above || EXCEPTIONS.contains(owner.getSimpleName().toString()));
        } else {
            String name = owner + "." + method.getSimpleName();
            require("4: look it up in the library's list", method, LIBRARY.contains(name));
        }
    }

    @Override
    public Void visitThrow(ThrowTree tree, Element inside) {
        require("6: throw new E()", inside, tree.getExpression() instanceof NewClassTree);
        require("6: no throw in a constructor", inside, inside.getKind() != ElementKind.CONSTRUCTOR);
        return super.visitThrow(tree, inside);
    }

    @Override
    public Void visitBinary(BinaryTree tree, Element inside) {
        noText(inside);
        return super.visitBinary(tree, inside);
    }

    @Override
    public Void visitCompoundAssignment(CompoundAssignmentTree tree, Element inside) {
        noText(inside);
        return super.visitCompoundAssignment(tree, inside);
    }

    private void noText(Element inside) {
        TypeMirror type = trees.getTypeMirror(getCurrentPath());
        require("10: texts are not joined by +", inside, !type.toString().equals("java.lang.String"));
    }

    @Override
    public Void visitImport(ImportTree tree, Element inside) {
        return ruledOut("4: an import", tree);
    }

    @Override
    public Void visitPackage(PackageTree tree, Element inside) {
        return ruledOut("a package line", tree);
    }

    @Override
    public Void visitLambdaExpression(LambdaExpressionTree tree, Element inside) {
        return ruledOut("2: a lambda", tree);
    }

    @Override
    public Void visitMemberReference(MemberReferenceTree tree, Element inside) {
        return ruledOut("2: a method reference", tree);
    }

    @Override
    public Void visitSynchronized(SynchronizedTree tree, Element inside) {
        return ruledOut("6: synchronized", tree);
    }

    @Override
    public Void visitAssert(AssertTree tree, Element inside) {
        return ruledOut("6: assert", tree);
    }

    @Override
    public Void visitTry(TryTree tree, Element inside) {
        return ruledOut("6: a try, which the program does without", tree);
    }

    private static Void ruledOut(String rule, Tree tree) {
        Check.fail("rule " + rule + ": " + tree);
        return null;
    }

    private static boolean isStatic(Element element) {
        return element.getModifiers().contains(Modifier.STATIC);
    }

    private int linesOf(MethodTree tree) {
        long start = trees.getSourcePositions().getStartPosition(unit, tree);
        long end = trees.getSourcePositions().getEndPosition(unit, tree);
        // A constructor that the compiler added has no text.
        if (end < start) {
            return 0;
        }
        return (int) (unit.getLineMap().getLineNumber(end) - unit.getLineMap().getLineNumber(start) + 1);
    }

    private static void atMost(String rule, int found, int most) {
        if (found > most) {
            Check.fail("rule " + rule + ": " + found + ", at most " + most);
        }
    }

    private static void require(String rule, Object where, boolean holds) {
        if (!holds) {
            Check.fail("rule " + rule + ": " + where);
        }
    }
}
