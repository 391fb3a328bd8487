import com.sun.source.tree.CompilationUnitTree;
import com.sun.source.tree.IdentifierTree;
import com.sun.source.tree.MemberSelectTree;
import com.sun.source.tree.MethodInvocationTree;
import com.sun.source.tree.MethodTree;
import com.sun.source.tree.NewClassTree;
import com.sun.source.tree.Tree;
import com.sun.source.util.JavacTask;
import com.sun.source.util.TreePath;
import com.sun.source.util.TreePathScanner;
import com.sun.source.util.Trees;
import java.nio.file.Path;
import java.util.ArrayList;
import java.util.LinkedHashMap;
import java.util.LinkedHashSet;
import java.util.List;
import java.util.Map;
import java.util.Set;
import java.util.TreeSet;
import javax.lang.model.element.Element;
import javax.lang.model.element.ExecutableElement;
import javax.lang.model.element.Modifier;
import javax.lang.model.element.TypeElement;
import javax.lang.model.util.Elements;
import javax.tools.JavaCompiler;
import javax.tools.StandardJavaFileManager;
import javax.tools.ToolProvider;

/**
 * Rules 4 and 11 of ../shared/LANGUAGE.md, by the calls that javac itself finds in the program: what of the library
 * is used, and how deep calls go that are no recursion.
 */
public final class CallsTest {
    private static final Due due = new Due();
    private static final int MOST_DEEP = 8;
    private static final Set<String> LIBRARY = Set.of("String.length", "String.charAt", "String.isEmpty",
        "String.equals", "String.indexOf", "String.substring", "String.toCharArray", "Integer.compare", "Integer.max",
        "Integer.min", "Integer.bitCount", "Integer.numberOfTrailingZeros", "Integer.highestOneBit", "Long.compare",
        "Long.max", "Long.min", "Math.max", "Math.min", "Math.abs", "Math.floorDiv", "Math.floorMod",
        "System.arraycopy", "Arrays.copyOf", "Arrays.copyOfRange", "Arrays.fill", "Object.Object");
    /** The document's own NO is this one. */
    private static final String LEAST_LONG = "Long.MIN_VALUE";

    /** What each method calls; of one that others override, those as well, but not of a call by super. */
    private static final Map<ExecutableElement, Set<ExecutableElement>> calls = new LinkedHashMap<>();
    private static final Map<ExecutableElement, Set<ExecutableElement>> bySuper = new LinkedHashMap<>();
    private static final Set<String> used = new TreeSet<>();
    private static final List<ExecutableElement> deepest = new ArrayList<>();

    private static final class Finder extends TreePathScanner<Void, ExecutableElement> {
        private final Trees trees;

        Finder(Trees trees) {
            this.trees = trees;
        }

        @Override
        public Void visitMethod(MethodTree node, ExecutableElement in) {
            ExecutableElement method = (ExecutableElement) trees.getElement(getCurrentPath());
            calls.put(method, new LinkedHashSet<>());
            bySuper.put(method, new LinkedHashSet<>());
            return super.visitMethod(node, method);
        }

        @Override
        public Void visitMethodInvocation(MethodInvocationTree node, ExecutableElement in) {
            boolean above = node.getMethodSelect() instanceof MemberSelectTree
                && ((MemberSelectTree) node.getMethodSelect()).getExpression().toString().equals("super");
            note(trees.getElement(new TreePath(getCurrentPath(), node.getMethodSelect())), in, above ? bySuper : calls);
            return super.visitMethodInvocation(node, in);
        }

        @Override
        public Void visitNewClass(NewClassTree node, ExecutableElement in) {
            note(trees.getElement(getCurrentPath()), in, calls);
            return super.visitNewClass(node, in);
        }

        @Override
        public Void visitMemberSelect(MemberSelectTree node, ExecutableElement in) {
            noteField(trees.getElement(getCurrentPath()));
            return super.visitMemberSelect(node, in);
        }

        @Override
        public Void visitIdentifier(IdentifierTree node, ExecutableElement in) {
            noteField(trees.getElement(getCurrentPath()));
            return super.visitIdentifier(node, in);
        }

        private void note(Element called, ExecutableElement in, Map<ExecutableElement, Set<ExecutableElement>> to) {
            if (called instanceof ExecutableElement && in != null) {
                to.get(in).add((ExecutableElement) called);
            }
            if (called != null && !ours(called)) {
                used.add(nameOf(called));
            }
        }

        private void noteField(Element read) {
            if (read != null && read.getKind().isField() && !read.getSimpleName().contentEquals("length")
                && !read.getSimpleName().contentEquals("this") && !read.getSimpleName().contentEquals("super")
                && !ours(read)) {
                used.add(nameOf(read));
            }
        }
    }

    private static boolean ours(Element e) {
        Element up = e;
        while (up != null && !up.getSimpleName().contentEquals("GateWatch")) {
            up = up.getEnclosingElement();
        }
        return up != null;
    }

    private static String nameOf(Element e) {
        String of = e.getEnclosingElement().getSimpleName().toString();
        String name = e.getSimpleName().toString();
        return of + "." + (name.equals("<init>") ? of : name);
    }

    private static void read() throws Exception {
        JavaCompiler javac = ToolProvider.getSystemJavaCompiler();
        try (StandardJavaFileManager files = javac.getStandardFileManager(null, null, null)) {
            JavacTask task = (JavacTask) javac.getTask(null, files, null, List.of("-proc:none"), null,
                files.getJavaFileObjects(Path.of("src/main/java/GateWatch.java")));
            Iterable<? extends CompilationUnitTree> units = task.parse();
            task.analyze();
            for (CompilationUnitTree unit : units) {
                for (Tree type : unit.getTypeDecls()) {
                    new Finder(Trees.instance(task)).scan(new TreePath(new TreePath(unit), type), null);
                }
            }
            addOverriders(task.getElements());
        }
    }

    private static void addOverriders(Elements elements) {
        for (ExecutableElement caller : calls.keySet()) {
            Set<ExecutableElement> called = calls.get(caller);
            for (ExecutableElement one : new ArrayList<>(called)) {
                for (ExecutableElement other : calls.keySet()) {
                    if (elements.overrides(other, one, (TypeElement) other.getEnclosingElement())) {
                        called.add(other);
                    }
                }
            }
            called.addAll(bySuper.get(caller));
        }
    }

    /** The longest way on which no method comes twice: what comes twice is a recursion. */
    private static void goDeeper(List<ExecutableElement> way) {
        if (way.size() > deepest.size()) {
            deepest.clear();
            deepest.addAll(way);
        }
        ExecutableElement last = way.get(way.size() - 1);
        for (ExecutableElement next : calls.getOrDefault(last, Set.of())) {
            if (!way.contains(next) && !nameOf(next).equals("Object.Object")) {
                way.add(next);
                goDeeper(way);
                way.remove(way.size() - 1);
            }
        }
    }

    private static String told(List<ExecutableElement> way) {
        StringBuilder text = new StringBuilder();
        for (ExecutableElement e : way) {
            text.append(text.length() == 0 ? "" : " > ").append(nameOf(e));
        }
        return text.toString();
    }

    public static void main(String[] args) throws Exception {
        read();
        int faces = 0;
        for (ExecutableElement entry : calls.keySet()) {
            if (entry.getModifiers().contains(Modifier.PUBLIC)) {
                faces++;
                deepest.clear();
                goDeeper(new ArrayList<>(List.of(entry)));
                due.is(told(deepest) + ": at most " + MOST_DEEP + " deep", deepest.size() <= MOST_DEEP ? 1 : 0, 1);
            }
        }
        due.is("methods and the constructor of the face", faces, 30);
        for (String member : used) {
            due.is(member + " stands in rule 4", LIBRARY.contains(member) || member.equals(LEAST_LONG) ? 1 : 0, 1);
        }
        due.is("Math.max was found", used.contains("Math.max") ? 1 : 0, 1);
        due.end();
    }
}
