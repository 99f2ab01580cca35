import com.sun.source.tree.ClassTree;
import com.sun.source.tree.CompilationUnitTree;
import com.sun.source.tree.MethodInvocationTree;
import com.sun.source.tree.MethodTree;
import com.sun.source.tree.VariableTree;
import com.sun.source.util.JavacTask;
import com.sun.source.util.TreePathScanner;
import com.sun.source.util.Trees;
import java.nio.file.Path;
import java.util.List;
import java.util.Map;
import java.util.Set;
import java.util.TreeMap;
import java.util.TreeSet;
import javax.lang.model.element.Element;
import javax.lang.model.element.Modifier;
import javax.tools.JavaCompiler;
import javax.tools.StandardJavaFileManager;
import javax.tools.ToolProvider;

/** Holds the source, as javac reads it, against rules 4, 8 and 11 of LANGUAGE.md: what it calls, how deep, and sizes. */
public final class ShapeTest {
    private static final int MOST_DEEP = 8;
    private static final int MOST_PARAMETERS = 7;
    private static final int MOST_FIELDS = 20;
    private static final Set<String> LIBRARY = Set.of("Arrays.fill(int[],int)", "Math.abs(int)", "Math.max(int,int)",
        "Math.min(int,int)", "String.charAt(int)", "String.length()",
        "System.arraycopy(java.lang.Object,int,java.lang.Object,int,int)");
    private static final Check check = new Check();

    /** By a method of the class or a class inside it, the methods that it calls. */
    private static final Map<String, Set<String>> calls = new TreeMap<>();
    private static final Map<String, Integer> fields = new TreeMap<>();

    public static void main(String[] args) throws Exception {
        check.begin("shape");
        read(Path.of("src/main/java/RationOffice.java"));
        for (Map.Entry<String, Integer> entry : fields.entrySet()) {
            check.due("fields of " + entry.getKey() + " are few", entry.getValue() <= MOST_FIELDS, true);
        }
        for (Map.Entry<String, Set<String>> entry : calls.entrySet()) {
            for (String called : entry.getValue()) {
                check.due(entry.getKey() + " may call " + called, isAllowed(called), true);
            }
            int depth = depthFrom(entry.getKey(), new TreeSet<>());
            check.due("depth from " + entry.getKey() + " on, " + depth + ", is small", depth <= MOST_DEEP, true);
        }
        check.finish();
    }

    private static void read(Path source) throws Exception {
        JavaCompiler compiler = ToolProvider.getSystemJavaCompiler();
        try (StandardJavaFileManager files = compiler.getStandardFileManager(null, null, null)) {
            JavacTask task = (JavacTask) compiler.getTask(null, files, null, List.of("-proc:none"), null,
                files.getJavaFileObjects(source));
            Iterable<? extends CompilationUnitTree> units = task.parse();
            task.analyze();
            for (CompilationUnitTree unit : units) {
                new Reader(Trees.instance(task)).scan(unit, null);
            }
        }
    }

    private static boolean isAllowed(String called) {
        return calls.containsKey(called) || LIBRARY.contains(called) || called.equals("Object.Object()");
    }

    /** How many calls stand open at most, the one of this method included; a recursion counts as too deep. */
    private static int depthFrom(String method, Set<String> open) {
        if (!open.add(method)) {
            return MOST_DEEP + 1;
        }
        int most = 0;
        for (String called : calls.getOrDefault(method, Set.of())) {
            most = Math.max(most, depthFrom(called, open));
        }
        open.remove(method);
        return 1 + most;
    }

    private static final class Reader extends TreePathScanner<Void, String> {
        private final Trees trees;

        Reader(Trees trees) {
            this.trees = trees;
        }

        @Override
        public Void visitVariable(VariableTree variable, String method) {
            boolean isField = getCurrentPath().getParentPath().getLeaf() instanceof ClassTree;
            if (isField && !variable.getModifiers().getFlags().contains(Modifier.STATIC)) {
                Element owner = trees.getElement(getCurrentPath().getParentPath());
                fields.merge(owner.getSimpleName().toString(), 1, Integer::sum);
            }
            return super.visitVariable(variable, method);
        }

        @Override
        public Void visitMethod(MethodTree method, String outer) {
            String name = nameHere();
            calls.putIfAbsent(name, new TreeSet<>());
            check.due("parameters of " + name + " are few", method.getParameters().size() <= MOST_PARAMETERS, true);
            return super.visitMethod(method, name);
        }

        @Override
        public Void visitMethodInvocation(MethodInvocationTree invocation, String method) {
            calls.computeIfAbsent(method == null ? "a field" : method, key -> new TreeSet<>()).add(nameHere());
            return super.visitMethodInvocation(invocation, method);
        }

        private String nameHere() {
            Element element = trees.getElement(getCurrentPath());
            return element.getEnclosingElement().getSimpleName() + "." + element;
        }
    }
}
