import com.sun.source.tree.ClassTree;
import com.sun.source.tree.CompilationUnitTree;
import com.sun.source.tree.ExpressionTree;
import com.sun.source.tree.MemberSelectTree;
import com.sun.source.tree.MethodInvocationTree;
import com.sun.source.tree.MethodTree;
import com.sun.source.tree.NewClassTree;
import com.sun.source.util.JavacTask;
import com.sun.source.util.TreePathScanner;
import com.sun.source.util.Trees;
import java.nio.file.Path;
import java.util.ArrayDeque;
import java.util.Deque;
import java.util.HashMap;
import java.util.List;
import java.util.Map;
import java.util.Set;
import java.util.TreeSet;
import javax.lang.model.element.Element;
import javax.lang.model.element.ExecutableElement;
import javax.lang.model.element.Modifier;
import javax.lang.model.element.TypeElement;
import javax.tools.JavaCompiler;
import javax.tools.StandardJavaFileManager;
import javax.tools.ToolProvider;

/**
 * Rules 4, 8 and 11 of LANGUAGE.md, as the compiler itself reads the class: only what the library's list has is called,
 * nothing calls itself, methods are short, and calls, those of constructors too, go at most eight deep.
 */
public final class CallsTest {
    private static final int MOST_DEEP = 8, MOST_LINES = 60;
    private static final Set<String> LISTED = Set.of("java.lang.Object.<init>", "Array.clone", "java.lang.System.arraycopy",
            "java.util.Arrays.fill", "java.util.Arrays.copyOf", "java.util.Arrays.copyOfRange", "java.lang.String.length",
            "java.lang.String.charAt", "java.lang.String.isEmpty", "java.lang.String.equals", "java.lang.String.indexOf",
            "java.lang.String.substring", "java.lang.String.toCharArray");
    private static final Set<String> STATIC_ALONE = Set.of("java.lang.Integer", "java.lang.Long", "java.lang.Math");

    /** By method, what it calls; all methods of one name in one class stand together. */
    private final Map<String, Set<String>> calls = new HashMap<>();
    private final Map<String, String> above = new HashMap<>();
    private final Map<String, List<String>> longest = new HashMap<>();
    private final Deque<String> open = new ArrayDeque<>();

    public static void main(String[] args) throws Exception {
        CallsTest test = new CallsTest();
        test.read();
        for (String method : new TreeSet<>(test.calls.keySet())) {
            List<String> chain = test.chainFrom(method);
            yes(chain.size() + " calls deep: " + String.join(", ", chain), chain.size() <= MOST_DEEP);
        }
        Checks.finish();
    }

    private static void yes(String what, boolean is) {
        Checks.due(what, is ? 1 : 0, 1);
    }

    private void read() throws Exception {
        JavaCompiler compiler = ToolProvider.getSystemJavaCompiler();
        try (StandardJavaFileManager files = compiler.getStandardFileManager(null, null, null)) {
            JavacTask task = (JavacTask) compiler.getTask(null, files, null, List.of("-proc:none"), null,
                    files.getJavaFileObjects(Path.of("src/main/java/RoomNumbers.java")));
            CompilationUnitTree unit = task.parse().iterator().next();
            task.analyze();
            new Reader(Trees.instance(task), unit).scan(unit, null);
        }
        yes("methods were read", calls.size() > 44);
    }

    /** The longest chain of calls that begins with a method. */
    private List<String> chainFrom(String method) {
        if (longest.containsKey(method)) return longest.get(method);
        yes(method + " does not call itself by " + open, !open.contains(method));
        if (open.contains(method)) return List.of(method);
        open.push(method);
        List<String> best = List.of();
        for (String called : calls.getOrDefault(method, Set.of())) {
            for (String target : targets(called)) {
                List<String> chain = chainFrom(target);
                if (chain.size() > best.size()) best = chain;
            }
        }
        open.pop();
        List<String> chain = new java.util.ArrayList<>(List.of(method));
        chain.addAll(best);
        longest.put(method, chain);
        return chain;
    }

    /** A call that may be answered by a class below (told by a star) goes to all that have it. */
    private Set<String> targets(String called) {
        if (!called.endsWith("*")) return Set.of(called);
        String method = called.substring(0, called.length() - 1);
        int dot = method.lastIndexOf('.');
        Set<String> all = new TreeSet<>(Set.of(method));
        for (String type : above.keySet()) {
            String own = type + method.substring(dot);
            if (isUnder(type, method.substring(0, dot)) && calls.containsKey(own)) all.add(own);
        }
        return all;
    }

    private boolean isUnder(String type, String top) {
        for (String t = type; t != null; t = above.get(t)) {
            if (t.equals(top)) return true;
        }
        return false;
    }

    private final class Reader extends TreePathScanner<Void, Void> {
        private final Trees trees;
        private final CompilationUnitTree unit;
        private String now = "";

        Reader(Trees trees, CompilationUnitTree unit) {
            this.trees = trees;
            this.unit = unit;
        }

        @Override
        public Void visitClass(ClassTree tree, Void nothing) {
            String outside = now;
            TypeElement type = (TypeElement) trees.getElement(getCurrentPath());
            above.put(type.getQualifiedName().toString(), type.getSuperclass().toString());
            now = type.getQualifiedName() + ".<init>";
            super.visitClass(tree, null);
            now = outside;
            return null;
        }

        @Override
        public Void visitMethod(MethodTree tree, Void nothing) {
            String outside = now;
            now = idOf((ExecutableElement) trees.getElement(getCurrentPath()));
            calls.computeIfAbsent(now, key -> new TreeSet<>());
            yes(now + " takes few", tree.getParameters().size() <= 7);
            yes(now + " is short", lineOf(tree, false) - lineOf(tree, true) < MOST_LINES);
            super.visitMethod(tree, null);
            now = outside;
            return null;
        }

        private long lineOf(MethodTree tree, boolean first) {
            long place = first ? trees.getSourcePositions().getStartPosition(unit, tree) : trees.getSourcePositions().getEndPosition(unit, tree);
            return place < 0 ? 0 : unit.getLineMap().getLineNumber(place);
        }

        @Override
        public Void visitMethodInvocation(MethodInvocationTree tree, Void nothing) {
            take((ExecutableElement) trees.getElement(getCurrentPath()), isSuper(tree.getMethodSelect()));
            return super.visitMethodInvocation(tree, null);
        }

        @Override
        public Void visitNewClass(NewClassTree tree, Void nothing) {
            take((ExecutableElement) trees.getElement(getCurrentPath()), true);
            return super.visitNewClass(tree, null);
        }

        private boolean isSuper(ExpressionTree called) {
            return called instanceof MemberSelectTree select && select.getExpression().toString().equals("super");
        }

        private void take(ExecutableElement called, boolean straight) {
            String id = idOf(called);
            boolean own = id.startsWith("RoomNumbers");
            if (!own) yes("the list has " + id, isListed(called, id));
            boolean fixed = straight || !own || called.getModifiers().contains(Modifier.STATIC)
                    || called.getModifiers().contains(Modifier.PRIVATE) || id.endsWith("<init>");
            calls.computeIfAbsent(now, key -> new TreeSet<>()).add(fixed ? id : id + "*");
        }

        private boolean isListed(Element called, String id) {
            String type = id.substring(0, id.lastIndexOf('.'));
            boolean still = called.getModifiers().contains(Modifier.STATIC);
            return LISTED.contains(id) || STATIC_ALONE.contains(type) && still && !id.endsWith("Exact");
        }

        private String idOf(ExecutableElement method) {
            Element owner = method.getEnclosingElement();
            String type = owner instanceof TypeElement t ? t.getQualifiedName().toString() : "";
            return (type.isEmpty() ? owner.getSimpleName().toString() : type) + "." + method.getSimpleName();
        }
    }
}
