import com.sun.source.tree.BinaryTree;
import com.sun.source.tree.ClassTree;
import com.sun.source.tree.CompilationUnitTree;
import com.sun.source.tree.MethodInvocationTree;
import com.sun.source.tree.MethodTree;
import com.sun.source.tree.NewArrayTree;
import com.sun.source.tree.NewClassTree;
import com.sun.source.tree.Tree;
import com.sun.source.tree.TypeCastTree;
import com.sun.source.tree.VariableTree;
import com.sun.source.util.JavacTask;
import com.sun.source.util.TreePathScanner;
import com.sun.source.util.Trees;
import java.io.IOException;
import java.nio.charset.StandardCharsets;
import java.nio.file.Files;
import java.nio.file.Path;
import java.util.EnumSet;
import java.util.HashMap;
import java.util.HashSet;
import java.util.List;
import java.util.Map;
import java.util.Set;
import java.util.TreeSet;
import javax.lang.model.element.Element;
import javax.lang.model.element.ElementKind;
import javax.lang.model.element.Modifier;
import javax.lang.model.type.TypeKind;
import javax.lang.model.type.TypeMirror;
import javax.tools.JavaCompiler;
import javax.tools.StandardJavaFileManager;
import javax.tools.ToolProvider;

/** The rules of ../shared/LANGUAGE.md that can be counted in the source; run it where src/ is. */
public final class LanguageTest extends TreePathScanner<Void, Void> {
    private static final Path SOURCE = Path.of("src/main/java/BulletLanes.java");

    // Rules 2, 6 and 10; what throws, catches or tests a type is not needed in this program, so it is kept out whole.
    private static final Set<Tree.Kind> KEPT_OUT = EnumSet.of(Tree.Kind.LAMBDA_EXPRESSION, Tree.Kind.MEMBER_REFERENCE,
        Tree.Kind.TRY, Tree.Kind.THROW, Tree.Kind.CATCH, Tree.Kind.SYNCHRONIZED, Tree.Kind.ASSERT, Tree.Kind.IMPORT,
        Tree.Kind.PACKAGE, Tree.Kind.INSTANCE_OF, Tree.Kind.ANNOTATION);
    private static final Set<String> LIBRARY = Set.of("java.lang.Math.max", "java.lang.Math.min", "java.lang.Math.abs",
        "java.lang.Integer.compare", "java.lang.Integer.bitCount", "java.lang.System.arraycopy",
        "java.lang.Object.<init>");

    private final Trees trees;
    private final CompilationUnitTree unit;
    private final Map<Element, Set<Element>> callees = new HashMap<>();
    private final Set<String> face = new TreeSet<>();
    private int classes = 0;

    private LanguageTest(Trees trees, CompilationUnitTree unit) {
        this.trees = trees;
        this.unit = unit;
    }

    public static void main(String[] args) throws IOException {
        Check.sentence("LANGUAGE.md");
        String text = Files.readString(SOURCE, StandardCharsets.ISO_8859_1);
        Check.due("rule 4: signs above 126", text.chars().filter(sign -> sign > 126).count(), 0);
        JavaCompiler compiler = ToolProvider.getSystemJavaCompiler();
        try (StandardJavaFileManager files = compiler.getStandardFileManager(null, null, null)) {
            JavacTask task = (JavacTask) compiler.getTask(null, files, null, List.of("-proc:none"), null,
                files.getJavaFileObjects(SOURCE));
            CompilationUnitTree unit = task.parse().iterator().next();
            task.analyze();
            LanguageTest test = new LanguageTest(Trees.instance(task), unit);
            test.readFace();
            test.scan(unit, null);
            test.sizes();
        }
        Check.end();
    }

    private void readFace() {
        Check.due("rule 1: one class in the file", unit.getTypeDecls().size(), 1);
        for (Tree member : ((ClassTree) unit.getTypeDecls().get(0)).getMembers()) {
            if (member instanceof MethodTree method && method.getModifiers().getFlags().contains(Modifier.PUBLIC)) {
                face.add(method.getName().toString());
            }
        }
        Check.due("rule 1: the face with its constructor", face.size(), 28);
    }

    private void sizes() {
        due("rule 11: classes: " + classes, classes <= 12);
        int deepest = 0;
        for (Element method : callees.keySet()) {
            deepest = Math.max(deepest, depth(method, new HashSet<>()));
        }
        due("rule 11: calls go deep: " + deepest, deepest <= 8);
    }

    private static void due(String what, boolean holds) {
        Check.due(what, holds ? 1 : 0, 1);
    }

    private String line(Tree tree) {
        return "line " + lineOf(tree, false);
    }

    private long lineOf(Tree tree, boolean end) {
        long at = end ? trees.getSourcePositions().getEndPosition(unit, tree)
            : trees.getSourcePositions().getStartPosition(unit, tree);
        return unit.getLineMap().getLineNumber(at);
    }

    /** How many calls stand open at once; rule 8 allows recursion with a guard, but the program has none. */
    private int depth(Element method, Set<Element> open) {
        if (!open.add(method)) {
            due("rule 8: recursion through " + method, false);
            return 0;
        }
        int deepest = 0;
        for (Element callee : callees.getOrDefault(method, Set.of())) {
            deepest = Math.max(deepest, depth(callee, open));
        }
        open.remove(method);
        return deepest + 1;
    }

    @Override
    public Void scan(Tree tree, Void none) {
        if (tree != null) {
            due("kept out, " + tree.getKind() + ": " + line(tree), !KEPT_OUT.contains(tree.getKind()));
        }
        return super.scan(tree, none);
    }

    @Override
    public Void visitClass(ClassTree tree, Void none) {
        classes++;
        Set<Modifier> flags = tree.getModifiers().getFlags();
        boolean outer = tree == unit.getTypeDecls().get(0);
        due("rule 2: " + line(tree), outer || flags.contains(Modifier.STATIC) && !flags.contains(Modifier.PUBLIC));
        int fields = 0;
        for (Tree member : tree.getMembers()) {
            if (member instanceof VariableTree field) {
                boolean fixed = field.getModifiers().getFlags().contains(Modifier.STATIC);
                fields += fixed ? 0 : 1;
                due("rule 5: " + line(field), !fixed || isConstant(field));
            }
            due("rule 5: a block, " + line(member), member.getKind() != Tree.Kind.BLOCK);
        }
        due("rule 11: fields: " + line(tree), fields <= 20);
        return super.visitClass(tree, none);
    }

    private boolean isConstant(VariableTree field) {
        return field.getModifiers().getFlags().contains(Modifier.FINAL) && field.getType().toString().equals("int");
    }

    @Override
    public Void visitMethod(MethodTree tree, Void none) {
        due("rule 11: parameters: " + line(tree), tree.getParameters().size() <= 7);
        due("rule 11: length: " + line(tree), lineOf(tree, true) - lineOf(tree, false) < 60);
        String name = tree.getName().toString();
        boolean seen = tree.getModifiers().getFlags().contains(Modifier.PUBLIC);
        due("rule 1: the name " + name + ": " + line(tree), seen || name.equals("<init>") || !face.contains(name));
        return super.visitMethod(tree, none);
    }

    private Element around() {
        for (var path = getCurrentPath(); path != null; path = path.getParentPath()) {
            if (path.getLeaf() instanceof MethodTree) {
                return trees.getElement(path);
            }
        }
        return null;
    }

    @Override
    public Void visitMethodInvocation(MethodInvocationTree tree, Void none) {
        Element callee = trees.getElement(getCurrentPath());
        String owner = callee.getEnclosingElement().toString();
        if (!owner.startsWith("BulletLanes")) {
            String name = owner + "." + callee.getSimpleName();
            due("rule 4: " + name + ": " + line(tree), LIBRARY.contains(name));
        }
        callees.computeIfAbsent(around(), key -> new HashSet<>()).add(callee);
        return super.visitMethodInvocation(tree, none);
    }

    @Override
    public Void visitNewClass(NewClassTree tree, Void none) {
        dueInConstructor(tree);
        return super.visitNewClass(tree, none);
    }

    @Override
    public Void visitNewArray(NewArrayTree tree, Void none) {
        dueInConstructor(tree);
        return super.visitNewArray(tree, none);
    }

    // Rule 12 and the one room of a run: rows are made with the object alone.
    private void dueInConstructor(Tree tree) {
        Element method = around();
        due("rule 12: made by a call: " + line(tree), method == null || method.getKind() == ElementKind.CONSTRUCTOR);
    }

    @Override
    public Void visitTypeCast(TypeCastTree tree, Void none) {
        due("rule 6: a cast: " + line(tree), trees.getTypeMirror(getCurrentPath()).getKind().isPrimitive());
        return super.visitTypeCast(tree, none);
    }

    @Override
    public Void visitBinary(BinaryTree tree, Void none) {
        TypeMirror type = trees.getTypeMirror(getCurrentPath());
        due("rule 10: texts joined by +: " + line(tree), type.getKind() != TypeKind.DECLARED);
        return super.visitBinary(tree, none);
    }
}
