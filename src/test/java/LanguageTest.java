import com.sun.source.tree.ClassTree;
import com.sun.source.tree.CompilationUnitTree;
import com.sun.source.tree.MethodInvocationTree;
import com.sun.source.tree.MethodTree;
import com.sun.source.tree.NewArrayTree;
import com.sun.source.tree.NewClassTree;
import com.sun.source.tree.Tree;
import com.sun.source.tree.TypeCastTree;
import com.sun.source.tree.VariableTree;
import com.sun.source.util.JavacTask;
import com.sun.source.util.TreePath;
import com.sun.source.util.TreePathScanner;
import com.sun.source.util.Trees;
import java.io.IOException;
import java.nio.file.Path;
import java.util.ArrayList;
import java.util.List;
import java.util.Set;
import java.util.TreeMap;
import java.util.TreeSet;
import javax.lang.model.element.Element;
import javax.lang.model.element.ElementKind;
import javax.lang.model.element.Modifier;
import javax.tools.JavaCompiler;
import javax.tools.StandardJavaFileManager;
import javax.tools.ToolProvider;

/** The rules of LANGUAGE.md that can be read off the program's tree, as the compiler sees it. */
public final class LanguageTest extends TreePathScanner<Void, Void> {
    private static final Set<String> LIBRARY = Set.of(
        "Object()", "String.length()", "String.charAt(int)", "String.indexOf(int)", "Math.max(int,int)", "Math.min(int,int)");
    private static final Set<Tree.Kind> LEFT_OUT = Set.of(
        Tree.Kind.THROW, Tree.Kind.TRY, Tree.Kind.CATCH, Tree.Kind.SYNCHRONIZED, Tree.Kind.ASSERT,
        Tree.Kind.LAMBDA_EXPRESSION, Tree.Kind.MEMBER_REFERENCE, Tree.Kind.IMPORT, Tree.Kind.PACKAGE,
        Tree.Kind.TYPE_CAST);
    /** Casts among numbers can't fail; the program needs no other. */
    private static final Set<String> CAST_TO = Set.of("byte", "char", "int");
    /** The methods that make objects: two that copy what is kept, and two that keep it. */
    private static final Set<String> MAKERS = Set.of("copy", "placeOfWanted", "nameOnTape", "<init>", "a field");
    private static final int MOST_DEEP = 8;
    private static final Sheet s = new Sheet();

    private final Trees trees;
    private final CompilationUnitTree unit;
    private final TreeMap<String, TreeSet<String>> callsOf = new TreeMap<>();
    private final TreeSet<String> publicNames = new TreeSet<>();
    private final List<String> otherNames = new ArrayList<>();
    private int classes = 0;

    private LanguageTest(Trees trees, CompilationUnitTree unit) {
        this.trees = trees;
        this.unit = unit;
    }

    public static void main(String[] args) throws IOException {
        JavaCompiler compiler = ToolProvider.getSystemJavaCompiler();
        try (StandardJavaFileManager files = compiler.getStandardFileManager(null, null, null)) {
            JavacTask task = (JavacTask) compiler.getTask(null, files, null, List.of("--release", "17"), null,
                files.getJavaFileObjects(Path.of("src/main/java/AddressTerms.java")));
            CompilationUnitTree unit = task.parse().iterator().next();
            task.analyze();
            new LanguageTest(Trees.instance(task), unit).go();
        }
        s.end();
    }

    private void go() {
        scan(unit, null);
        s.due("at most twelve classes", Math.max(classes, 12), 12);
        otherNames.retainAll(publicNames);
        s.due("other methods with names of the face", otherNames.toString(), "[]");
        int deepest = 0;
        for (String method : callsOf.keySet()) {
            deepest = Math.max(deepest, depth(method, 0));
        }
        s.due("calls that stand open at once", Math.max(deepest, MOST_DEEP), MOST_DEEP);
    }

    /** A method that comes back to itself would go beyond any depth, so it is told as one too deep. */
    private int depth(String method, int above) {
        int deepest = 1;
        if (above > MOST_DEEP || !callsOf.containsKey(method)) {
            return deepest;
        }
        for (String next : callsOf.get(method)) {
            deepest = Math.max(deepest, 1 + depth(next, above + 1));
        }
        return deepest;
    }

    private void leftOut(Tree tree, boolean isLeftOut) {
        long line = unit.getLineMap().getLineNumber(trees.getSourcePositions().getStartPosition(unit, tree));
        s.due("line " + line + ", " + tree.getKind(), isLeftOut ? 1 : 0, 0);
    }

    private static String nameOf(Element method) {
        String owner = method.getEnclosingElement().getSimpleName().toString();
        String full = method.toString().replace("java.lang.", "");
        return method.getKind() == ElementKind.CONSTRUCTOR ? full.substring(full.lastIndexOf('.') + 1) : owner + "." + full;
    }

    private boolean isOwn(Element method) {
        return !method.getEnclosingElement().toString().startsWith("java.");
    }

    private Element methodAround() {
        for (TreePath at = getCurrentPath(); at != null; at = at.getParentPath()) {
            if (at.getLeaf().getKind() == Tree.Kind.METHOD) {
                return trees.getElement(at);
            }
        }
        return null;
    }

    private void noteCall() {
        Element called = trees.getElement(getCurrentPath());
        if (!isOwn(called)) {
            s.due("the library has " + nameOf(called), LIBRARY.contains(nameOf(called)) ? 1 : 0, 1);
        }
        Element from = methodAround();
        callsOf.computeIfAbsent(from == null ? "a field" : nameOf(from), any -> new TreeSet<>()).add(nameOf(called));
    }

    private void noteMade() {
        Element from = methodAround();
        String name = from == null ? "a field" : from.getSimpleName().toString();
        s.due(name + " makes objects", MAKERS.contains(name) ? 1 : 0, 1);
    }

    @Override
    public Void scan(Tree tree, Void none) {
        if (tree != null) {
            boolean isSafe = tree instanceof TypeCastTree cast && CAST_TO.contains(cast.getType().toString());
            leftOut(tree, LEFT_OUT.contains(tree.getKind()) && !isSafe);
        }
        return super.scan(tree, none);
    }

    @Override
    public Void visitClass(ClassTree tree, Void none) {
        classes++;
        Set<Modifier> flags = tree.getModifiers().getFlags();
        boolean isOuter = tree.getSimpleName().contentEquals("AddressTerms");
        Set<Modifier> due = isOuter ? Set.of(Modifier.PUBLIC, Modifier.FINAL) : Set.of(Modifier.PRIVATE, Modifier.STATIC, Modifier.FINAL);
        s.due(tree.getSimpleName() + "'s modifiers", new TreeSet<>(flags).toString(), new TreeSet<>(due).toString());
        int fields = 0;
        for (Tree member : tree.getMembers()) {
            leftOut(member, member.getKind() == Tree.Kind.BLOCK);
            if (member instanceof VariableTree field) {
                fields += fieldOf(field);
            }
        }
        s.due(tree.getSimpleName() + " has at most twenty fields", Math.max(fields, 20), 20);
        return super.visitClass(tree, none);
    }

    /** How many fields of an object it is: a constant is none. */
    private int fieldOf(VariableTree field) {
        Set<Modifier> flags = field.getModifiers().getFlags();
        if (!flags.contains(Modifier.STATIC)) {
            return 1;
        }
        String type = field.getType().toString();
        s.due(field.getName() + " is a constant", flags.contains(Modifier.FINAL) && Set.of("int", "String").contains(type) ? 1 : 0, 1);
        return 0;
    }

    @Override
    public Void visitMethod(MethodTree tree, Void none) {
        Element method = trees.getElement(getCurrentPath());
        String name = tree.getName().toString();
        if (!name.equals("<init>")) {
            boolean ofFace = method.getModifiers().contains(Modifier.PUBLIC) && nameOf(method).startsWith("AddressTerms.");
            (ofFace ? publicNames : otherNames).add(name);
        }
        s.due(name + " takes at most seven", Math.max(tree.getParameters().size(), 7), 7);
        long begin = trees.getSourcePositions().getStartPosition(unit, tree);
        long end = trees.getSourcePositions().getEndPosition(unit, tree);
        if (end >= 0) {
            long lines = unit.getLineMap().getLineNumber(end) - unit.getLineMap().getLineNumber(begin) + 1;
            s.due(name + " has at most sixty lines", Math.max(lines, 60), 60);
        }
        return super.visitMethod(tree, none);
    }

    @Override
    public Void visitMethodInvocation(MethodInvocationTree tree, Void none) {
        noteCall();
        return super.visitMethodInvocation(tree, none);
    }

    @Override
    public Void visitNewClass(NewClassTree tree, Void none) {
        leftOut(tree, tree.getClassBody() != null);
        noteCall();
        noteMade();
        return super.visitNewClass(tree, none);
    }

    @Override
    public Void visitNewArray(NewArrayTree tree, Void none) {
        noteMade();
        return super.visitNewArray(tree, none);
    }
}
