import com.sun.source.tree.CompilationUnitTree;
import com.sun.source.tree.MethodInvocationTree;
import com.sun.source.tree.MethodTree;
import com.sun.source.tree.NewClassTree;
import com.sun.source.util.JavacTask;
import com.sun.source.util.TreePathScanner;
import com.sun.source.util.Trees;
import java.nio.file.Path;
import java.util.ArrayList;
import java.util.HashMap;
import java.util.HashSet;
import java.util.List;
import java.util.Map;
import java.util.Set;
import java.util.TreeMap;
import java.util.TreeSet;
import javax.lang.model.element.Element;
import javax.tools.JavaCompiler;
import javax.tools.StandardJavaFileManager;
import javax.tools.ToolProvider;

/** LANGUAGE.md, rules 8 and 11: which method calls which, how deep, and that the one recursion is the Reader's. */
public final class DepthTest {
    private static final int DEEPEST = 8;

    private final Due due = new Due();
    private final Map<String, Set<String>> calls = new TreeMap<>();
    private final Map<String, Integer> depths = new HashMap<>();

    private final class Scanner extends TreePathScanner<Void, Void> {
        private final Trees trees;
        private String method = "";

        Scanner(Trees trees) {
            this.trees = trees;
        }

        private String name(Element e) {
            return e.getEnclosingElement() + "." + e.getSimpleName();
        }

        @Override
        public Void visitMethod(MethodTree tree, Void none) {
            method = name(trees.getElement(getCurrentPath()));
            calls.computeIfAbsent(method, m -> new TreeSet<>());
            return super.visitMethod(tree, none);
        }

        private void call() {
            Element e = trees.getElement(getCurrentPath());
            if (e != null && !method.isEmpty() && e.getEnclosingElement().toString().startsWith("HourLines")) {
                calls.get(method).add(name(e));
            }
        }

        @Override
        public Void visitMethodInvocation(MethodInvocationTree tree, Void none) {
            call();
            return super.visitMethodInvocation(tree, none);
        }

        @Override
        public Void visitNewClass(NewClassTree tree, Void none) {
            call();
            return super.visitNewClass(tree, none);
        }
    }

    private void look(Path source) throws Exception {
        JavaCompiler compiler = ToolProvider.getSystemJavaCompiler();
        try (StandardJavaFileManager files = compiler.getStandardFileManager(null, null, null)) {
            JavacTask task = (JavacTask) compiler.getTask(null, files, null, List.of("-proc:none"), null,
                    files.getJavaFileObjects(source));
            Iterable<? extends CompilationUnitTree> units = task.parse();
            task.analyze();
            new Scanner(Trees.instance(task)).scan(units, null);
        }
    }

    private boolean reaches(String from, String to) {
        Set<String> had = new HashSet<>();
        List<String> open = new ArrayList<>(calls.getOrDefault(from, Set.of()));
        while (!open.isEmpty()) {
            String m = open.remove(open.size() - 1);
            if (m.equals(to)) {
                return true;
            }
            if (had.add(m)) {
                open.addAll(calls.getOrDefault(m, Set.of()));
            }
        }
        return false;
    }

    /** How many calls stand open at most from this one on, a recursion's methods counted as one. */
    private int depth(String method) {
        Integer known = depths.get(method);
        if (known != null) {
            return known;
        }
        Set<String> ring = new TreeSet<>(Set.of(method));
        for (String other : calls.keySet()) {
            if (reaches(method, other) && reaches(other, method)) {
                ring.add(other);
            }
        }
        int deepest = 0;
        for (String m : ring) {
            for (String callee : calls.getOrDefault(m, Set.of())) {
                if (!ring.contains(callee)) {
                    deepest = Math.max(deepest, depth(callee));
                }
            }
        }
        depths.put(method, deepest + 1);
        return deepest + 1;
    }

    private void rules() {
        due.holds("calls were found: " + calls.size() + " methods", calls.size() > 100
                && calls.get("HourLines.best").contains("HourLines.Parter.solve"));
        for (String m : calls.keySet()) {
            due.holds(m + " goes at most eight deep: " + depth(m), depth(m) <= DEEPEST);
            due.holds(m + " calls itself only where the depth is carried", !reaches(m, m)
                    || m.matches("HourLines\\.Reader\\.read(Either|Both|Ask|Sum|Product|One|Opened|Choice)"));
        }
    }

    public static void main(String[] args) throws Exception {
        DepthTest test = new DepthTest();
        test.look(Path.of(System.getProperty("source", "src/main/java/HourLines.java")));
        test.rules();
        test.due.end();
    }
}
