import com.sun.source.tree.MethodInvocationTree;
import com.sun.source.tree.MethodTree;
import com.sun.source.tree.NewClassTree;
import com.sun.source.util.JavacTask;
import com.sun.source.util.TreePathScanner;
import com.sun.source.util.Trees;
import java.nio.file.Path;
import java.util.Map;
import java.util.Set;
import java.util.TreeMap;
import java.util.TreeSet;
import javax.lang.model.element.Element;
import javax.tools.JavaCompiler;
import javax.tools.StandardJavaFileManager;
import javax.tools.ToolProvider;

/**
 * Holds the program against rules 8 and 11 of ../shared/LANGUAGE.md: how deep its calls go (those of the
 * library counted), that no method comes back to itself, and how many parameters one takes.
 */
public final class CallDepth {
    private static final Path SOURCE = Path.of("src/main/java/Nocommaplane.java");
    private static final int DEEPEST = 8;
    private static final int PARAMETERS = 7;
    private static final int OPEN = -1;

    private final Map<String, Set<String>> calls = new TreeMap<>();
    private final Map<String, Integer> depths = new TreeMap<>();
    private int wrong;

    public static void main(String[] args) throws Exception {
        CallDepth test = new CallDepth();
        test.read();
        int deepest = 0;
        for (String method : test.calls.keySet()) {
            deepest = Math.max(deepest, test.depth(method));
        }
        if (deepest > DEEPEST || test.calls.size() < 300) {
            test.complain(test.calls.size() + " methods, calls go " + deepest + " deep");
        }
        System.out.println("calls go " + deepest + " deep: " + test.wrong + " wrong");
        if (test.wrong > 0) {
            System.exit(1);
        }
    }

    private void complain(String text) {
        wrong++;
        System.out.println(text);
    }

    /** Has the compiler read the program, and notes which method calls which. */
    private void read() throws Exception {
        JavaCompiler compiler = ToolProvider.getSystemJavaCompiler();
        try (StandardJavaFileManager files = compiler.getStandardFileManager(null, null, null)) {
            JavacTask task = (JavacTask) compiler.getTask(null, files, null, null, null, files.getJavaFileObjects(SOURCE));
            TreePathScanner<Void, String> scanner = new Scanner(Trees.instance(task));
            var units = task.parse();
            task.analyze();
            units.forEach(unit -> scanner.scan(unit, null));
        }
    }

    private final class Scanner extends TreePathScanner<Void, String> {
        private final Trees trees;

        private Scanner(Trees trees) {
            this.trees = trees;
        }

        private String here() {
            Element element = trees.getElement(getCurrentPath());
            return element.getEnclosingElement() + "." + element;
        }

        @Override
        public Void visitMethod(MethodTree method, String from) {
            calls.putIfAbsent(here(), new TreeSet<>());
            if (method.getParameters().size() > PARAMETERS) {
                complain(here() + " takes too many parameters");
            }
            return super.visitMethod(method, here());
        }

        @Override
        public Void visitMethodInvocation(MethodInvocationTree call, String from) {
            note(from);
            return super.visitMethodInvocation(call, from);
        }

        @Override
        public Void visitNewClass(NewClassTree call, String from) {
            note(from);
            return super.visitNewClass(call, from);
        }

        private void note(String from) {
            if (from != null) {
                calls.get(from).add(here());
            }
        }
    }

    private int depth(String method) {
        Integer known = depths.get(method);
        if (known != null) {
            if (known == OPEN) {
                complain(method + " comes back to itself");
            }
            return Math.max(known, 0);
        }
        depths.put(method, OPEN);
        int deepest = 0;
        for (String called : calls.getOrDefault(method, Set.of())) {
            deepest = Math.max(deepest, depth(called));
        }
        depths.put(method, deepest + 1);
        return deepest + 1;
    }
}
