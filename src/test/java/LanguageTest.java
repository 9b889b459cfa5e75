import com.sun.source.tree.AnnotationTree;
import com.sun.source.tree.BinaryTree;
import com.sun.source.tree.ClassTree;
import com.sun.source.tree.CompilationUnitTree;
import com.sun.source.tree.ForLoopTree;
import com.sun.source.tree.ImportTree;
import com.sun.source.tree.MethodInvocationTree;
import com.sun.source.tree.MethodTree;
import com.sun.source.tree.NewArrayTree;
import com.sun.source.tree.NewClassTree;
import com.sun.source.tree.ThrowTree;
import com.sun.source.tree.Tree;
import com.sun.source.tree.VariableTree;
import com.sun.source.tree.WhileLoopTree;
import com.sun.source.util.JavacTask;
import com.sun.source.util.TreePath;
import com.sun.source.util.TreePathScanner;
import com.sun.source.util.Trees;
import java.io.File;
import java.nio.file.Files;
import java.nio.file.Path;
import java.util.EnumSet;
import java.util.HashSet;
import java.util.LinkedHashMap;
import java.util.LinkedHashSet;
import java.util.List;
import java.util.Map;
import java.util.Set;
import javax.lang.model.element.Element;
import javax.lang.model.element.ElementKind;
import javax.lang.model.element.Modifier;
import javax.tools.JavaCompiler;
import javax.tools.StandardJavaFileManager;
import javax.tools.ToolProvider;

/** What of LANGUAGE.md can be seen in the class as the compiler reads it. Run from the project's root. */
public final class LanguageTest extends TreePathScanner<Void, Void> {
    private static final Path FILE = Path.of("src/main/java/GrowHouse.java");
    private static final int LONGEST_METHOD = 60;
    private static final int MOST_CLASSES = 12;
    private static final int MOST_PARAMETERS = 7;
    private static final int MOST_FIELDS = 20;
    private static final int DEEPEST = 8;
    /** What the rules leave out, or allow only behind a test that can't be seen here, and the class has no use for. */
    private static final Set<Tree.Kind> NEVER = EnumSet.of(Tree.Kind.LAMBDA_EXPRESSION, Tree.Kind.MEMBER_REFERENCE,
        Tree.Kind.TRY, Tree.Kind.CATCH, Tree.Kind.SYNCHRONIZED, Tree.Kind.ASSERT, Tree.Kind.TYPE_CAST,
        Tree.Kind.INSTANCE_OF, Tree.Kind.FLOAT_LITERAL, Tree.Kind.DOUBLE_LITERAL, Tree.Kind.PACKAGE);
    /** The one cast that there is: of a number, so it can't fail. */
    private static final Set<String> CASTS = Set.of("(byte)(eight >>> shift)");
    /** Of rule 4, what the class has a use for. */
    private static final Set<String> LIBRARY = Set.of("java.lang.Math.min(int,int)", "java.lang.Math.max(int,int)",
        "java.lang.System.arraycopy(java.lang.Object,int,java.lang.Object,int,int)", "java.util.Arrays.fill(int[],int)",
        "java.lang.String.length()", "java.lang.String.charAt(int)");
    private static final Set<String> TYPES = Set.of("int", "long", "boolean", "char", "java.lang.String", "int[]", "byte[]",
        "boolean[]");
    private static final Set<String> IMPORTS = Set.of("java.util.Arrays", "java.util.NoSuchElementException");

    private final Trees trees;
    private final CompilationUnitTree unit;
    private final Map<Element, Set<Element>> calls = new LinkedHashMap<>();
    private final Set<String> publicNames = new HashSet<>();
    private int classes;

    private LanguageTest(Trees trees, CompilationUnitTree unit) {
        this.trees = trees;
        this.unit = unit;
    }

    public static void main(String[] args) throws Exception {
        Check.part("language");
        Check.yes("ASCII alone", Files.readString(FILE).chars().allMatch(c -> c < 128));
        JavaCompiler compiler = ToolProvider.getSystemJavaCompiler();
        try (StandardJavaFileManager files = compiler.getStandardFileManager(null, null, null)) {
            JavacTask task = (JavacTask) compiler.getTask(null, files, null, List.of("--release", "17"), null,
                files.getJavaFileObjects(new File(FILE.toString())));
            CompilationUnitTree unit = task.parse().iterator().next();
            task.analyze();
            LanguageTest test = new LanguageTest(Trees.instance(task), unit);
            test.namePublicMethods();
            test.scan(unit, null);
            test.end();
        }
        Check.end("LanguageTest");
    }

    private void namePublicMethods() {
        for (Tree member : ((ClassTree) unit.getTypeDecls().get(0)).getMembers()) {
            if (member instanceof MethodTree method && method.getModifiers().getFlags().contains(Modifier.PUBLIC)) {
                publicNames.add(method.getName().toString());
            }
        }
    }

    private void end() {
        Check.is("classes outside others", unit.getTypeDecls().size(), 1);
        Check.yes(classes + " classes", classes <= MOST_CLASSES);
        for (Element method : calls.keySet()) {
            if (method.getModifiers().contains(Modifier.PUBLIC)) {
                int depth = depth(method, new LinkedHashSet<>());
                Check.yes(method + " goes " + depth + " deep", depth <= DEEPEST);
            }
        }
    }

    /** Rules 8 and 11; the class has no recursion, so each chain of calls has an end. */
    private int depth(Element method, LinkedHashSet<Element> open) {
        boolean first = open.add(method);
        Check.yes(method + " calls itself by " + open, first);
        if (!first) {
            return 0;
        }
        int deepest = 0;
        for (Element called : calls.getOrDefault(method, Set.of())) {
            deepest = Math.max(deepest, depth(called, open));
        }
        open.remove(method);
        return deepest + 1;
    }

    @Override
    public Void scan(Tree tree, Void nothing) {
        if (tree != null && NEVER.contains(tree.getKind())) {
            Check.yes(tree.getKind() + " " + tree, CASTS.contains(tree.toString()));
        }
        return super.scan(tree, nothing);
    }

    @Override
    public Void visitImport(ImportTree tree, Void nothing) {
        Check.yes("import " + tree, IMPORTS.contains(tree.getQualifiedIdentifier().toString()) && !tree.isStatic());
        return super.visitImport(tree, nothing);
    }

    @Override
    public Void visitAnnotation(AnnotationTree tree, Void nothing) {
        Check.no("annotation " + tree, true);
        return super.visitAnnotation(tree, nothing);
    }

    @Override
    public Void visitClass(ClassTree tree, Void nothing) {
        classes++;
        Element type = trees.getElement(getCurrentPath());
        boolean outer = tree == unit.getTypeDecls().get(0);
        Check.yes(type + " is static", outer || type.getModifiers().contains(Modifier.STATIC));
        Check.yes(type + " is private", outer || type.getModifiers().contains(Modifier.PRIVATE));
        Check.yes(type + " is final", type.getModifiers().contains(Modifier.FINAL));
        Check.yes(type + " extends nothing", tree.getExtendsClause() == null && tree.getImplementsClause().isEmpty());
        int fields = 0;
        for (Tree member : tree.getMembers()) {
            Check.no(type + " has a block", member.getKind() == Tree.Kind.BLOCK);
            if (member instanceof VariableTree field && !field.getModifiers().getFlags().contains(Modifier.STATIC)) {
                fields++;
            }
        }
        Check.yes(type + " has " + fields + " fields", fields <= MOST_FIELDS);
        return super.visitClass(tree, nothing);
    }

    @Override
    public Void visitMethod(MethodTree tree, Void nothing) {
        Element method = trees.getElement(getCurrentPath());
        calls.computeIfAbsent(method, m -> new LinkedHashSet<>());
        Check.yes(method + " has few parameters", tree.getParameters().size() <= MOST_PARAMETERS);
        long lines = lineOf(trees.getSourcePositions().getEndPosition(unit, tree))
            - lineOf(trees.getSourcePositions().getStartPosition(unit, tree)) + 1;
        Check.yes(method + " has " + lines + " lines", lines <= LONGEST_METHOD);
        if (method.getKind() == ElementKind.METHOD && !method.getModifiers().contains(Modifier.PUBLIC)) {
            Check.no(method + " bears a public one's name", publicNames.contains(tree.getName().toString()));
        }
        return super.visitMethod(tree, nothing);
    }

    private long lineOf(long position) {
        return unit.getLineMap().getLineNumber(position);
    }

    @Override
    public Void visitVariable(VariableTree tree, Void nothing) {
        Element variable = trees.getElement(getCurrentPath());
        if (variable.getModifiers().contains(Modifier.STATIC)) {
            Check.yes(variable + " is final", variable.getModifiers().contains(Modifier.FINAL));
        }
        String type = variable.asType().toString();
        Check.yes(variable + " is " + type, TYPES.contains(type) || type.matches("GrowHouse\\.\\w+(\\[\\])?"));
        return super.visitVariable(tree, nothing);
    }

    @Override
    public Void visitMethodInvocation(MethodInvocationTree tree, Void nothing) {
        Element called = trees.getElement(getCurrentPath());
        String name = called.getEnclosingElement() + "." + called;
        boolean own = called.getEnclosingElement().toString().startsWith("GrowHouse");
        boolean beginning = called.getKind() == ElementKind.CONSTRUCTOR;
        Check.yes("calls " + name, own || beginning || LIBRARY.contains(name));
        Element caller = enclosingMethod();
        if (caller == null) {
            Check.yes("only values() is called outside a method", name.endsWith("Deed.values()"));
        } else if (!beginning) {
            calls.computeIfAbsent(caller, m -> new LinkedHashSet<>()).add(called);
        }
        return super.visitMethodInvocation(tree, nothing);
    }

    /** null in a field's initialiser. */
    private Element enclosingMethod() {
        for (Tree tree : getCurrentPath()) {
            if (tree instanceof MethodTree) {
                return trees.getElement(trees.getPath(unit, tree));
            }
        }
        return null;
    }

    /** Rules 6 and 10: texts are neither joined by + nor compared by ==. */
    @Override
    public Void visitBinary(BinaryTree tree, Void nothing) {
        for (Tree side : List.of(tree.getLeftOperand(), tree.getRightOperand())) {
            String type = trees.getTypeMirror(new TreePath(getCurrentPath(), side)).toString();
            Check.no(tree + " is of texts", type.equals("java.lang.String"));
        }
        return super.visitBinary(tree, nothing);
    }

    /** Rule 9: the end of a loop is seen in its own lines. */
    @Override
    public Void visitWhileLoop(WhileLoopTree tree, Void nothing) {
        Check.yes("while " + tree.getCondition(), tree.getCondition().toString().contains("place < text.length"));
        return super.visitWhileLoop(tree, nothing);
    }

    @Override
    public Void visitForLoop(ForLoopTree tree, Void nothing) {
        Check.yes("for " + tree.getInitializer() + tree.getCondition() + tree.getUpdate(),
            tree.getCondition() != null && tree.getInitializer().size() == 1 && tree.getUpdate().size() == 1);
        return super.visitForLoop(tree, nothing);
    }

    @Override
    public Void visitThrow(ThrowTree tree, Void nothing) {
        Check.same("a throw", tree.toString(), "throw new NoSuchElementException();");
        return super.visitThrow(tree, nothing);
    }

    @Override
    public Void visitNewClass(NewClassTree tree, Void nothing) {
        Check.no(tree + " has a body", tree.getClassBody() != null);
        Tree parent = getCurrentPath().getParentPath().getLeaf();
        if (!(parent instanceof ThrowTree)) {
            madeOnce(tree);
        }
        return super.visitNewClass(tree, nothing);
    }

    @Override
    public Void visitNewArray(NewArrayTree tree, Void nothing) {
        madeOnce(tree);
        return super.visitNewArray(tree, nothing);
    }

    /** Rule 12 and the one room: no call makes an object, so what a run makes does not depend on its calls. */
    private void madeOnce(Tree tree) {
        Element method = enclosingMethod();
        Check.yes(tree + " is made by " + method, method == null || method.getKind() == ElementKind.CONSTRUCTOR);
    }
}
