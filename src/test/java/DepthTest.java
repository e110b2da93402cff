import com.sun.source.tree.CompilationUnitTree;
import com.sun.source.tree.MethodInvocationTree;
import com.sun.source.tree.MethodTree;
import com.sun.source.util.JavacTask;
import com.sun.source.util.TreePathScanner;
import com.sun.source.util.Trees;
import java.io.IOException;
import java.nio.file.Path;
import java.util.HashMap;
import java.util.HashSet;
import java.util.List;
import java.util.Map;
import java.util.Set;
import javax.lang.model.element.Element;
import javax.lang.model.element.Modifier;
import javax.tools.JavaCompiler;
import javax.tools.StandardJavaFileManager;
import javax.tools.ToolProvider;

/** How deep the program's calls go, by its source: LANGUAGE.md lets eight stand open, and none that recurs is needed. */
public final class DepthTest extends TreePathScanner<Void, Void> {
    private static final int DEEPEST = 8;

    private final Trees trees;
    private final Map<Element, Set<Element>> calls = new HashMap<>();
    private final Set<Element> open = new HashSet<>();
    private boolean recurs = false;
    private Element caller = null;

    private DepthTest(Trees trees) {
        this.trees = trees;
    }

    @Override
    public Void visitMethod(MethodTree method, Void none) {
        caller = trees.getElement(getCurrentPath());
        calls.put(caller, new HashSet<>());
        super.visitMethod(method, none);
        caller = null;
        return null;
    }

    @Override
    public Void visitMethodInvocation(MethodInvocationTree call, Void none) {
        Element called = trees.getElement(getCurrentPath());
        if (caller != null && called != null) {
            calls.get(caller).add(called);
        }
        return super.visitMethodInvocation(call, none);
    }

    /** The method itself counts, and so does the library's. */
    private int depth(Element method) {
        if (!open.add(method)) {
            recurs = true;
            return 0;
        }
        int below = 0;
        for (Element called : calls.getOrDefault(method, Set.of())) {
            below = Math.max(below, depth(called));
        }
        open.remove(method);
        return below + 1;
    }

    private void look(Check check) {
        int looked = 0;
        for (Element method : calls.keySet()) {
            if (method.getModifiers().contains(Modifier.PUBLIC)) {
                int deep = depth(method);
                check.holds(method + " goes " + deep + " deep", deep <= DEEPEST);
                looked++;
            }
        }
        check.due("how many public methods and constructors were looked at", looked, 19);
        check.holds("no method calls itself", !recurs);
    }

    public static void main(String[] args) throws IOException {
        Check check = new Check("DepthTest");
        Path file = Path.of(args.length > 0 ? args[0] : "src/main/java/PotCuts.java");
        JavaCompiler compiler = ToolProvider.getSystemJavaCompiler();
        try (StandardJavaFileManager files = compiler.getStandardFileManager(null, null, null)) {
            JavacTask task = (JavacTask) compiler.getTask(null, files, null, List.of("-proc:none"), null,
                    files.getJavaFileObjects(file));
            Iterable<? extends CompilationUnitTree> units = task.parse();
            task.analyze();
            DepthTest test = new DepthTest(Trees.instance(task));
            for (CompilationUnitTree unit : units) {
                test.scan(unit, null);
            }
            test.look(check);
        }
        check.end();
    }
}
