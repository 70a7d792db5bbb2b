import com.sun.source.tree.BinaryTree;
import com.sun.source.tree.CompilationUnitTree;
import com.sun.source.tree.CompoundAssignmentTree;
import com.sun.source.tree.MethodInvocationTree;
import com.sun.source.tree.MethodTree;
import com.sun.source.tree.NewClassTree;
import com.sun.source.util.JavacTask;
import com.sun.source.util.TreePathScanner;
import com.sun.source.util.Trees;
import java.io.IOException;
import java.nio.file.Path;
import java.util.ArrayDeque;
import java.util.Deque;
import java.util.Map;
import java.util.Set;
import java.util.TreeMap;
import java.util.TreeSet;
import javax.lang.model.element.Element;
import javax.tools.JavaCompiler;
import javax.tools.StandardJavaFileManager;
import javax.tools.ToolProvider;

/**
 * What the source calls, as the compiler sees it: of the library only what LANGUAGE.md lists (rule 4), and of its own
 * methods none that is at work already (rule 8), and at most eight deep (rule 11). It is run where the project lies.
 */
public final class LibraryTest extends TreePathScanner<Void, Void> {
    private static final Set<String> LISTED = Set.of(
            "java.lang.String.length", "java.lang.String.charAt", "java.lang.Math.min", "java.lang.Math.max",
            "java.lang.Math.floorDiv", "java.lang.Math.floorMod", "java.lang.System.arraycopy",
            "java.lang.Object.<init>");

    private final Trees trees;
    private final Map<String, Set<String>> calls = new TreeMap<>();
    private final Deque<String> open = new ArrayDeque<>();
    private String caller = "";

    private LibraryTest(Trees trees) {
        this.trees = trees;
    }

    public static void main(String[] args) throws IOException {
        JavaCompiler compiler = ToolProvider.getSystemJavaCompiler();
        try (StandardJavaFileManager files = compiler.getStandardFileManager(null, null, null)) {
            JavacTask task = (JavacTask) compiler.getTask(null, files, null, null, null,
                    files.getJavaFileObjects(Path.of("src/main/java/FlexRows.java")));
            LibraryTest test = new LibraryTest(Trees.instance(task));
            test.scan(task.parse(), task.analyze());
            test.judge();
        }
        Check.finish();
    }

    /** Joins the two steps: the trees are there after the first one, and what they name after the second. */
    private void scan(Iterable<? extends CompilationUnitTree> units, Iterable<?> analyzed) {
        Check.holds("the source is understood", analyzed.iterator().hasNext());
        scan(units, (Void) null);
    }

    @Override
    public Void visitMethod(MethodTree method, Void none) {
        caller = name(trees.getElement(getCurrentPath()));
        calls.computeIfAbsent(caller, made -> new TreeSet<>());
        super.visitMethod(method, none);
        caller = "";
        return null;
    }

    @Override
    public Void visitMethodInvocation(MethodInvocationTree call, Void none) {
        enter();
        return super.visitMethodInvocation(call, none);
    }

    @Override
    public Void visitNewClass(NewClassTree call, Void none) {
        enter();
        return super.visitNewClass(call, none);
    }

    @Override
    public Void visitBinary(BinaryTree sum, Void none) {
        noText(sum.toString());
        return super.visitBinary(sum, none);
    }

    @Override
    public Void visitCompoundAssignment(CompoundAssignmentTree sum, Void none) {
        noText(sum.toString());
        return super.visitCompoundAssignment(sum, none);
    }

    private void noText(String written) {
        String type = "" + trees.getTypeMirror(getCurrentPath());
        Check.holds("10: no text is joined by +: " + written, !type.equals("java.lang.String"));
    }

    private void enter() {
        String called = name(trees.getElement(getCurrentPath()));
        Check.holds("the call of " + called + " stands in a method", !caller.isEmpty());
        calls.computeIfAbsent(caller, made -> new TreeSet<>()).add(called);
    }

    private static String name(Element called) {
        return called.getEnclosingElement() + "." + called.getSimpleName();
    }

    private void judge() {
        for (Map.Entry<String, Set<String>> entry : calls.entrySet()) {
            for (String called : entry.getValue()) {
                boolean listed = called.startsWith("FlexRows") || LISTED.contains(called);
                Check.holds("4: " + entry.getKey() + " may call " + called, listed);
            }
        }
        Check.holds("the calls of digest() are found", calls.get("FlexRows.digest").contains("FlexRows.layOut"));
        for (String method : calls.keySet()) {
            open(method);
        }
    }

    private void open(String method) {
        boolean again = open.contains(method);
        Check.holds("8: " + method + " is not called by itself, as in " + open, !again);
        Check.holds("11: at most eight deep: " + method + " in " + open, open.size() < 8);
        if (again || open.size() >= 8) {
            return;
        }
        open.push(method);
        for (String called : calls.getOrDefault(method, Set.of())) {
            open(called);
        }
        open.pop();
    }
}
