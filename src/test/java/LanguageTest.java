import com.sun.source.tree.BinaryTree;
import com.sun.source.tree.ClassTree;
import com.sun.source.tree.CompilationUnitTree;
import com.sun.source.tree.ForLoopTree;
import com.sun.source.tree.MethodInvocationTree;
import com.sun.source.tree.MethodTree;
import com.sun.source.tree.NewArrayTree;
import com.sun.source.tree.NewClassTree;
import com.sun.source.tree.Tree;
import com.sun.source.tree.VariableTree;
import com.sun.source.tree.WhileLoopTree;
import com.sun.source.util.JavacTask;
import com.sun.source.util.TreePath;
import com.sun.source.util.TreePathScanner;
import com.sun.source.util.Trees;
import java.io.IOException;
import java.nio.file.Files;
import java.nio.file.Path;
import java.util.HashSet;
import java.util.Map;
import java.util.Set;
import java.util.TreeMap;
import java.util.TreeSet;
import javax.lang.model.element.Element;
import javax.lang.model.element.ElementKind;
import javax.lang.model.element.Modifier;
import javax.lang.model.type.ArrayType;
import javax.lang.model.type.TypeKind;
import javax.lang.model.type.TypeMirror;
import javax.tools.JavaCompiler;
import javax.tools.StandardJavaFileManager;
import javax.tools.ToolProvider;

/** The rules of LANGUAGE.md, by their numbers, as far as the compiler's own reading of the source shows them. */
public final class LanguageTest extends TreePathScanner<Void, Void> {
    private static final Path SOURCE = Path.of("src/main/java/FaultDesk.java");
    private static final Check CHECK = new Check("LanguageTest");
    private static final int LONGEST_METHOD = 60, MOST_PARAMETERS = 7, MOST_CLASSES = 12, MOST_FIELDS = 20, MOST_DEPTH = 8;
    // Of the library that rule 4 lists only what the class uses; a use of more is to be looked up there.
    private static final Set<String> LIBRARY = Set.of("java.lang.String.length", "java.lang.String.charAt", "java.lang.System.arraycopy",
        "java.lang.Math.max", "java.lang.Math.min", "java.lang.Object.<init>");
    // Rules 2 and 6.
    private static final Set<Tree.Kind> BARRED = Set.of(Tree.Kind.LAMBDA_EXPRESSION, Tree.Kind.MEMBER_REFERENCE, Tree.Kind.THROW, Tree.Kind.TRY,
        Tree.Kind.SYNCHRONIZED, Tree.Kind.ASSERT);
    private static final Set<TypeKind> CONSTANT_ARRAYS = Set.of(TypeKind.INT, TypeKind.LONG, TypeKind.CHAR, TypeKind.BYTE);

    private final Trees trees;
    private final CompilationUnitTree unit;
    private final Map<String, Set<String>> calls = new TreeMap<>();
    private String method = "";
    private int classes = 0;

    private LanguageTest(Trees trees, CompilationUnitTree unit) {
        this.trees = trees;
        this.unit = unit;
    }

    public static void main(String[] args) throws IOException {
        String source = Files.readString(SOURCE);
        CHECK.holds("4: signs 1 to 127 alone", source.chars().allMatch(sign -> sign > 0 && sign < 128));
        JavaCompiler compiler = ToolProvider.getSystemJavaCompiler();
        try (StandardJavaFileManager files = compiler.getStandardFileManager(null, null, null)) {
            JavacTask task = (JavacTask) compiler.getTask(null, files, null, null, null, files.getJavaFileObjects(SOURCE));
            CompilationUnitTree unit = task.parse().iterator().next();
            task.analyze();
            CHECK.holds("no package line and no import", unit.getPackage() == null && unit.getImports().isEmpty());
            LanguageTest test = new LanguageTest(Trees.instance(task), unit);
            test.scan(unit, null);
            test.end();
        }
        CHECK.end();
    }

    private void end() {
        CHECK.holds("11: some twelve classes", classes <= MOST_CLASSES);
        CHECK.holds("methods were found", calls.size() > 100);
        for (String name : calls.keySet()) {
            CHECK.holds("8: no recursion, 11: eight deep at most, from " + name, depthOf(name, new HashSet<>()) <= MOST_DEPTH);
        }
    }

    /** How many calls stand open at once; far too many where one comes back to itself. */
    private int depthOf(String name, Set<String> open) {
        if (!open.add(name)) {
            return MOST_DEPTH * MOST_DEPTH;
        }
        int deepest = 0;
        for (String called : calls.getOrDefault(name, Set.of())) {
            deepest = Math.max(deepest, depthOf(called, open));
        }
        open.remove(name);
        return deepest + 1;
    }

    private String where() {
        return "line " + unit.getLineMap().getLineNumber(trees.getSourcePositions().getStartPosition(unit, getCurrentPath().getLeaf())) + ": ";
    }

    private void rule(String words, boolean fact) {
        CHECK.holds(where() + words, fact);
    }

    private Element element() {
        return trees.getElement(getCurrentPath());
    }

    private static boolean isOwn(TypeMirror type) {
        return type.toString().equals("FaultDesk") || type.toString().startsWith("FaultDesk.");
    }

    private static boolean isText(TypeMirror type) {
        return type != null && type.toString().equals("java.lang.String");
    }

    @Override
    public Void scan(Tree tree, Void nothing) {
        if (tree != null && BARRED.contains(tree.getKind())) {
            CHECK.holds("2, 6: none of these in " + method + ": " + tree, false);
        }
        return super.scan(tree, nothing);
    }

    // ---- classes, methods, fields

    @Override
    public Void visitClass(ClassTree tree, Void nothing) {
        classes++;
        Element element = element();
        boolean isInside = element.getEnclosingElement().getKind() == ElementKind.CLASS;
        rule("2: static inside, not local", !isInside || element.getModifiers().contains(Modifier.STATIC));
        rule("2: no local class", isInside || tree.getSimpleName().contentEquals("FaultDesk"));
        rule("2: plain classes", tree.getKind() == Tree.Kind.CLASS && tree.getExtendsClause() == null);
        long fields = element.getEnclosedElements().stream()
            .filter(each -> each.getKind() == ElementKind.FIELD && !each.getModifiers().contains(Modifier.STATIC)).count();
        rule("11: some twenty fields", fields <= MOST_FIELDS);
        rule("5: no block of initialisers", tree.getMembers().stream().noneMatch(each -> each.getKind() == Tree.Kind.BLOCK));
        return super.visitClass(tree, nothing);
    }

    @Override
    public Void visitMethod(MethodTree tree, Void nothing) {
        method = nameOf(element());
        calls.putIfAbsent(method, new TreeSet<>());
        rule("11: seven parameters at most", tree.getParameters().size() <= MOST_PARAMETERS);
        long first = unit.getLineMap().getLineNumber(Math.max(0, trees.getSourcePositions().getStartPosition(unit, tree)));
        long last = unit.getLineMap().getLineNumber(Math.max(0, trees.getSourcePositions().getEndPosition(unit, tree)));
        rule("11: a short method", last - first < LONGEST_METHOD);
        rule("6: no equals, hashCode, toString", !Set.of("equals", "hashCode", "toString").contains(tree.getName().toString()));
        super.visitMethod(tree, nothing);
        method = "";
        return null;
    }

    private static String nameOf(Element element) {
        return element.getEnclosingElement() + "." + element;
    }

    @Override
    public Void visitVariable(VariableTree tree, Void nothing) {
        Element element = element();
        TypeMirror type = element.asType();
        TypeMirror held = type instanceof ArrayType array ? array.getComponentType() : type;
        rule("3: a type of the rules", held.getKind().isPrimitive() || isOwn(held) || isText(held));
        if (element.getKind() == ElementKind.FIELD && element.getModifiers().contains(Modifier.STATIC)) {
            boolean isConstant = held == type ? type.getKind().isPrimitive() || isText(type) : CONSTANT_ARRAYS.contains(held.getKind());
            rule("5: a static field is a constant", element.getModifiers().contains(Modifier.FINAL) && tree.getInitializer() != null && isConstant);
        }
        return super.visitVariable(tree, nothing);
    }

    // ---- what a method does

    @Override
    public Void visitMethodInvocation(MethodInvocationTree tree, Void nothing) {
        Element called = element();
        if (isOwn(called.getEnclosingElement().asType())) {
            calls.computeIfAbsent(method, name -> new TreeSet<>()).add(nameOf(called));
        } else {
            String name = called.getEnclosingElement() + "." + (called.getKind() == ElementKind.CONSTRUCTOR ? "<init>" : called.getSimpleName());
            rule("4: of the library, " + name, LIBRARY.contains(name));
        }
        return super.visitMethodInvocation(tree, nothing);
    }

    @Override
    public Void visitNewClass(NewClassTree tree, Void nothing) {
        rule("2: no class without a name", tree.getClassBody() == null);
        rule("4: own objects alone", isOwn(element().getEnclosingElement().asType()));
        madeWithTheDesk();
        calls.computeIfAbsent(method, name -> new TreeSet<>()).add(nameOf(element()));
        return super.visitNewClass(tree, nothing);
    }

    @Override
    public Void visitNewArray(NewArrayTree tree, Void nothing) {
        madeWithTheDesk();
        rule("3: one dimension", tree.getDimensions().size() <= 1);
        return super.visitNewArray(tree, nothing);
    }

    // Rule 12 lets any method make objects; this class needs none, which keeps the room.
    private void madeWithTheDesk() {
        String simple = method.substring(method.lastIndexOf('.', Math.max(0, method.indexOf('('))) + 1);
        rule("12: made in a constructor, not in " + method, simple.isEmpty() || Character.isUpperCase(simple.charAt(0)));
    }

    @Override
    public Void visitBinary(BinaryTree tree, Void nothing) {
        rule("6, 10: no +, == or != of texts", !isText(typeOf(tree.getLeftOperand())) && !isText(typeOf(tree.getRightOperand())));
        return super.visitBinary(tree, nothing);
    }

    private TypeMirror typeOf(Tree operand) {
        return trees.getTypeMirror(new TreePath(getCurrentPath(), operand));
    }

    @Override
    public Void visitForLoop(ForLoopTree tree, Void nothing) {
        rule("9: a loop has an end", tree.getCondition() instanceof BinaryTree);
        return super.visitForLoop(tree, nothing);
    }

    @Override
    public Void visitWhileLoop(WhileLoopTree tree, Void nothing) {
        rule("9: a loop has an end", tree.getCondition().toString().contains(" < "));
        return super.visitWhileLoop(tree, nothing);
    }
}
