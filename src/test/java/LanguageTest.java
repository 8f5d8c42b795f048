import com.sun.source.tree.ClassTree;
import com.sun.source.tree.CompilationUnitTree;
import com.sun.source.tree.MethodInvocationTree;
import com.sun.source.tree.MethodTree;
import com.sun.source.tree.NewClassTree;
import com.sun.source.tree.Tree;
import com.sun.source.tree.VariableTree;
import com.sun.source.util.JavacTask;
import com.sun.source.util.SourcePositions;
import com.sun.source.util.TreePathScanner;
import com.sun.source.util.Trees;
import java.nio.file.Path;
import java.util.HashMap;
import java.util.HashSet;
import java.util.List;
import java.util.Map;
import java.util.Set;
import javax.lang.model.element.Element;
import javax.lang.model.element.ExecutableElement;
import javax.lang.model.element.Modifier;
import javax.tools.JavaCompiler;
import javax.tools.StandardJavaFileManager;
import javax.tools.ToolProvider;

/** What ../shared/LANGUAGE.md asks inside the methods, read from the compiler's own tree. */
public final class LanguageTest extends TreePathScanner<Void, Void> {
    private static final Checks CHECKS = new Checks("LanguageTest");
    private static final int MOST_CALLS_DEEP = 8;
    private static final int MOST_LINES = 60;
    private static final int MOST_PARAMETERS = 7;
    private static final int MOST_FIELDS = 20;
    private static final Set<String> LIBRARY = Set.of("Object.<init>", "Math.max",
            "StringBuilder.<init>", "StringBuilder.append", "StringBuilder.length",
            "StringBuilder.setLength", "StringBuilder.toString", "String.length", "String.charAt",
            "IllegalArgumentException.<init>", "IllegalStateException.<init>",
            "IndexOutOfBoundsException.<init>");
    // Only these call themselves; each has a guard on its depth.
    private static final Set<String> RECURSIVE = Set.of("Sheet.greatestFrom");

    private final Map<ExecutableElement, Set<ExecutableElement>> calls = new HashMap<>();
    private final Trees trees;
    private final CompilationUnitTree unit;
    private ExecutableElement method;

    private LanguageTest(Trees trees, CompilationUnitTree unit) {
        this.trees = trees;
        this.unit = unit;
    }

    public static void main(String[] args) throws Exception {
        JavaCompiler compiler = ToolProvider.getSystemJavaCompiler();
        try (StandardJavaFileManager files = compiler.getStandardFileManager(null, null, null)) {
            JavacTask task = (JavacTask) compiler.getTask(null, files, null,
                    List.of("--release", "17", "-proc:none"), null,
                    files.getJavaFileObjects(Path.of("src/main/java/GraticulePress.java")));
            CompilationUnitTree unit = task.parse().iterator().next();
            task.analyze();
            LanguageTest test = new LanguageTest(Trees.instance(task), unit);
            test.scan(unit, null);
            test.callsAreNotTooDeep();
        }
        CHECKS.end();
    }

    @Override
    public Void visitClass(ClassTree tree, Void nothing) {
        int fields = 0;
        for (Tree member : tree.getMembers()) {
            if (member instanceof VariableTree
                    && !((VariableTree) member).getModifiers().getFlags()
                            .contains(Modifier.STATIC)) {
                fields++;
            }
        }
        CHECKS.holds("few fields in " + tree.getSimpleName(), fields <= MOST_FIELDS);
        return super.visitClass(tree, nothing);
    }

    @Override
    public Void visitMethod(MethodTree tree, Void nothing) {
        method = (ExecutableElement) trees.getElement(getCurrentPath());
        calls.put(method, new HashSet<>());
        CHECKS.holds("few parameters of " + nameOf(method),
                tree.getParameters().size() <= MOST_PARAMETERS);
        CHECKS.holds("few lines of " + nameOf(method), linesOf(tree) <= MOST_LINES);
        return super.visitMethod(tree, nothing);
    }

    private long linesOf(Tree tree) {
        SourcePositions positions = trees.getSourcePositions();
        long first = unit.getLineMap().getLineNumber(positions.getStartPosition(unit, tree));
        long last = positions.getEndPosition(unit, tree);
        // What the compiler puts in by itself has no end of its own.
        return last < 0 ? 1 : unit.getLineMap().getLineNumber(last) - first + 1;
    }

    @Override
    public Void visitMethodInvocation(MethodInvocationTree tree, Void nothing) {
        isCalled(trees.getElement(getCurrentPath()));
        return super.visitMethodInvocation(tree, nothing);
    }

    @Override
    public Void visitNewClass(NewClassTree tree, Void nothing) {
        isCalled(trees.getElement(getCurrentPath()));
        return super.visitNewClass(tree, nothing);
    }

    private void isCalled(Element called) {
        ExecutableElement callee = (ExecutableElement) called;
        if (isOfTheFile(callee)) {
            CHECKS.holds("calls stand in methods, " + nameOf(callee), method != null);
            calls.get(method).add(callee);
        } else {
            CHECKS.holds("the library has " + nameOf(callee) + " to use",
                    LIBRARY.contains(nameOf(callee)));
        }
    }

    private static boolean isOfTheFile(Element element) {
        for (Element e = element; e != null; e = e.getEnclosingElement()) {
            if (e.getSimpleName().contentEquals("GraticulePress")) {
                return true;
            }
        }
        return false;
    }

    private static String nameOf(ExecutableElement called) {
        String owner = called.getEnclosingElement().getSimpleName().toString();
        // The library keeps what is shared by its two builders in a class that it hides.
        return owner.replace("AbstractStringBuilder", "StringBuilder")
                + "." + called.getSimpleName();
    }

    private void callsAreNotTooDeep() {
        CHECKS.holds("that there are methods", calls.size() > 13);
        for (ExecutableElement each : calls.keySet()) {
            if (calls.get(each).contains(each)) {
                CHECKS.holds(nameOf(each) + " may call itself", RECURSIVE.contains(nameOf(each)));
            }
            if (each.getModifiers().contains(Modifier.PUBLIC)) {
                int depth = depthFrom(each, 1);
                CHECKS.holds(nameOf(each) + " at most 8 deep, " + depth,
                        depth <= MOST_CALLS_DEEP);
            }
        }
    }

    // Two methods that called one another would come up to the number of methods here.
    private int depthFrom(ExecutableElement from, int open) {
        int deepest = open;
        if (open <= calls.size()) {
            for (ExecutableElement to : calls.getOrDefault(from, Set.of())) {
                if (!to.equals(from)) {
                    deepest = Math.max(deepest, depthFrom(to, open + 1));
                }
            }
        }
        return deepest;
    }
}
