import com.sun.source.tree.CompilationUnitTree;
import com.sun.source.tree.MethodInvocationTree;
import com.sun.source.tree.MethodTree;
import com.sun.source.tree.NewClassTree;
import com.sun.source.tree.Tree;
import com.sun.source.util.JavacTask;
import com.sun.source.util.TreePathScanner;
import com.sun.source.util.Trees;
import java.io.IOException;
import java.nio.file.Path;
import java.util.ArrayDeque;
import java.util.Deque;
import java.util.HashMap;
import java.util.LinkedHashMap;
import java.util.LinkedHashSet;
import java.util.List;
import java.util.Map;
import java.util.Set;
import java.util.TreeSet;
import javax.lang.model.element.Element;
import javax.tools.JavaCompiler;
import javax.tools.StandardJavaFileManager;
import javax.tools.ToolProvider;

/** Which methods of a source call which, as the compiler sees them. */
final class Calls {
    private final Map<Element, Set<Element>> called = new LinkedHashMap<>();
    /** What is called and is not of this source: by class and name. */
    final Set<String> foreign = new TreeSet<>();
    private final Map<Element, Set<Element>> reached = new HashMap<>();
    private final Map<Element, List<Element>> deepest = new HashMap<>();

    Calls(Path source) throws IOException {
        JavaCompiler compiler = ToolProvider.getSystemJavaCompiler();
        StandardJavaFileManager files = compiler.getStandardFileManager(null, null, null);
        JavacTask task = (JavacTask) compiler.getTask(null, files, null, List.of("-proc:none"), null,
            files.getJavaFileObjects(source));
        Iterable<? extends CompilationUnitTree> units = task.parse();
        task.analyze();
        for (CompilationUnitTree unit : units) {
            new Finder(Trees.instance(task)).scan(unit, null);
        }
        for (Element method : called.keySet()) {
            for (Element other : called.get(method)) {
                if (!called.containsKey(other)) {
                    foreign.add(other.getEnclosingElement() + "." + other.getSimpleName());
                }
            }
            called.get(method).retainAll(called.keySet());
        }
        for (Element method : called.keySet()) {
            reached.put(method, reachedFrom(method));
        }
    }

    private final class Finder extends TreePathScanner<Void, Void> {
        private final Trees trees;
        private Element inside;

        Finder(Trees trees) {
            this.trees = trees;
        }

        @Override
        public Void visitMethod(MethodTree method, Void nothing) {
            inside = trees.getElement(getCurrentPath());
            called.put(inside, new LinkedHashSet<>());
            super.visitMethod(method, nothing);
            inside = null;
            return null;
        }

        @Override
        public Void visitMethodInvocation(MethodInvocationTree call, Void nothing) {
            note(call);
            return super.visitMethodInvocation(call, nothing);
        }

        @Override
        public Void visitNewClass(NewClassTree call, Void nothing) {
            note(call);
            return super.visitNewClass(call, nothing);
        }

        private void note(Tree call) {
            if (inside != null) {
                called.get(inside).add(trees.getElement(getCurrentPath()));
            }
        }
    }

    private Set<Element> reachedFrom(Element method) {
        Set<Element> found = new LinkedHashSet<>();
        Deque<Element> next = new ArrayDeque<>(called.get(method));
        while (!next.isEmpty()) {
            Element other = next.pop();
            if (found.add(other)) {
                next.addAll(called.get(other));
            }
        }
        return found;
    }

    Set<Element> methods() {
        return called.keySet();
    }

    boolean comesBackTo(Element method) {
        return reached.get(method).contains(method);
    }

    private boolean areOneRecursion(Element a, Element b) {
        return a == b || reached.get(a).contains(b) && reached.get(b).contains(a);
    }

    /** The longest chain of calls from a method on; methods that call one another again and again count once. */
    List<Element> deepestFrom(Element method) {
        List<Element> known = deepest.get(method);
        if (known != null) {
            return known;
        }
        Deque<Element> best = new ArrayDeque<>();
        for (Element fellow : methods()) {
            if (areOneRecursion(method, fellow)) {
                for (Element other : called.get(fellow)) {
                    if (!areOneRecursion(method, other) && deepestFrom(other).size() > best.size()) {
                        best = new ArrayDeque<>(deepestFrom(other));
                    }
                }
            }
        }
        best.addFirst(method);
        deepest.put(method, List.copyOf(best));
        return deepest.get(method);
    }
}
