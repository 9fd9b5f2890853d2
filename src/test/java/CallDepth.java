import com.sun.source.tree.CompilationUnitTree;
import com.sun.source.tree.MethodInvocationTree;
import com.sun.source.tree.MethodTree;
import com.sun.source.tree.NewClassTree;
import com.sun.source.util.JavacTask;
import com.sun.source.util.TreePathScanner;
import com.sun.source.util.Trees;
import java.io.IOException;
import java.io.File;
import java.util.LinkedHashMap;
import java.util.LinkedHashSet;
import java.util.List;
import java.util.Map;
import java.util.Set;
import javax.lang.model.element.Element;
import javax.lang.model.element.Modifier;
import javax.tools.JavaCompiler;
import javax.tools.StandardJavaFileManager;
import javax.tools.ToolProvider;

/** Who calls whom in the class, as the compiler sees it: no method comes back to itself, and none goes too deep. */
public final class CallDepth extends Checks {
    private static final int DEEPEST = 8;

    private static final Map<Element, Set<Element>> calls = new LinkedHashMap<>();

    /** Notes for each method what it calls or makes. */
    private static final class Caller extends TreePathScanner<Void, Void> {
        private final Trees trees;
        private Element within;

        Caller(Trees trees) {
            this.trees = trees;
        }

        @Override
        public Void visitMethod(MethodTree method, Void none) {
            Element outer = within;
            within = trees.getElement(getCurrentPath());
            calls.put(within, new LinkedHashSet<>());
            super.visitMethod(method, none);
            within = outer;
            return null;
        }

        @Override
        public Void visitMethodInvocation(MethodInvocationTree call, Void none) {
            note();
            return super.visitMethodInvocation(call, none);
        }

        @Override
        public Void visitNewClass(NewClassTree made, Void none) {
            note();
            return super.visitNewClass(made, none);
        }

        private void note() {
            Element called = trees.getElement(getCurrentPath());
            // Every constructor begins with that of Object, which is no call in the text.
            if (within != null && !called.toString().equals("Object()")) {
                calls.get(within).add(called);
            }
        }
    }

    private static void read(String source) throws IOException {
        JavaCompiler compiler = ToolProvider.getSystemJavaCompiler();
        StandardJavaFileManager files = compiler.getStandardFileManager(null, null, null);
        JavacTask task = (JavacTask) compiler.getTask(null, files, null, List.of("-proc:none"), null,
            files.getJavaFileObjects(new File(source)));
        Iterable<? extends CompilationUnitTree> units = task.parse();
        task.analyze();
        for (CompilationUnitTree unit : units) {
            new Caller(Trees.instance(task)).scan(unit, null);
        }
    }

    /** The longest chain of calls that begins here, as text; one that comes back to itself is told as such. */
    private static String longest(Element method, String chain, Set<Element> open) {
        String here = chain + " " + method.getSimpleName();
        if (!open.add(method)) {
            return here + " again".repeat(DEEPEST);
        }
        String best = here;
        for (Element called : calls.getOrDefault(method, Set.of())) {
            String deeper = longest(called, here, open);
            if (depth(deeper) > depth(best)) {
                best = deeper;
            }
        }
        open.remove(method);
        return best;
    }

    private static int depth(String chain) {
        return chain.trim().split(" ").length;
    }

    public static void main(String[] args) throws IOException {
        says("8, 11: calls that are no recursion go at most eight deep");
        read(System.getProperty("sixnet.source", "src/main/java/SixNet.java"));
        int open = 0;
        for (Element method : calls.keySet()) {
            if (method.getModifiers().contains(Modifier.PUBLIC)) {
                String chain = longest(method, "", new LinkedHashSet<>());
                due("calls:" + chain + ", too deep", depth(chain) > DEEPEST ? depth(chain) : 0, 0);
                open++;
            }
        }
        due("the constructor and the methods that were looked at", open, 29);
        end();
    }
}
