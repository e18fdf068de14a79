import com.sun.source.tree.CompilationUnitTree;
import com.sun.source.tree.DoWhileLoopTree;
import com.sun.source.tree.ForLoopTree;
import com.sun.source.tree.EnhancedForLoopTree;
import com.sun.source.tree.MethodInvocationTree;
import com.sun.source.tree.MethodTree;
import com.sun.source.tree.NewArrayTree;
import com.sun.source.tree.NewClassTree;
import com.sun.source.tree.VariableTree;
import com.sun.source.tree.WhileLoopTree;
import com.sun.source.util.JavacTask;
import com.sun.source.util.TreePathScanner;
import com.sun.source.util.Trees;
import java.nio.file.Path;
import java.util.ArrayList;
import java.util.HashSet;
import java.util.List;
import java.util.Map;
import java.util.Set;
import java.util.TreeMap;
import java.util.TreeSet;
import javax.lang.model.element.Element;
import javax.lang.model.element.ElementKind;
import javax.lang.model.element.ExecutableElement;
import javax.lang.model.element.Modifier;
import javax.lang.model.element.TypeElement;
import javax.lang.model.element.VariableElement;
import javax.tools.JavaCompiler;
import javax.tools.StandardJavaFileManager;
import javax.tools.ToolProvider;

/** What the compiler's own tree shows of LANGUAGE.md: who calls whom and how deep, what of the library is used,
 *  what is static, and what is made. */
public final class CallsTest {
    private static final int DEEPEST = 8;
    private static final Set<String> LIBRARY = Set.of(
        "java.lang.Object.Object()", "java.lang.Integer.bitCount(int)", "java.lang.Math.max(int,int)",
        "java.lang.Math.min(int,int)", "java.lang.String.charAt(int)", "java.lang.String.length()",
        "java.lang.System.arraycopy(java.lang.Object,int,java.lang.Object,int,int)");
    private static final Set<String> THROWN = Set.of(
        "java.lang.IllegalArgumentException", "java.lang.IllegalStateException", "java.util.NoSuchElementException");
    private static final Set<String> STATIC_TYPES = Set.of(
        "int", "long", "boolean", "char", "java.lang.String", "int[]", "long[]", "char[]", "byte[]");

    private final Map<String, Set<String>> calls = new TreeMap<>();
    private final Map<String, ExecutableElement> methods = new TreeMap<>();
    private final Set<String> library = new TreeSet<>();
    private final List<String> madeInLoops = new ArrayList<>();
    private final List<String> odd = new ArrayList<>();
    private final Trees trees;

    private CallsTest(Trees trees) {
        this.trees = trees;
    }

    public static void main(String[] args) throws Exception {
        JavaCompiler compiler = ToolProvider.getSystemJavaCompiler();
        try (StandardJavaFileManager files = compiler.getStandardFileManager(null, null, null)) {
            JavacTask task = (JavacTask) compiler.getTask(null, files, null, List.of("-proc:none"), null,
                files.getJavaFileObjects(Path.of("src/main/java/PoolTowels.java")));
            Iterable<? extends CompilationUnitTree> units = task.parse();
            task.analyze();
            CallsTest test = new CallsTest(Trees.instance(task));
            for (CompilationUnitTree unit : units) {
                test.new Reader().scan(unit, null);
            }
            test.check();
        }
        Checks.end();
    }

    private static String nameOf(ExecutableElement e) {
        return e.getEnclosingElement().getSimpleName() + "." + e.getSimpleName();
    }

    /** Goes through the source and keeps who calls whom. */
    private final class Reader extends TreePathScanner<Void, Void> {
        private String within;
        private int loops;

        @Override
        public Void visitMethod(MethodTree tree, Void v) {
            String outer = within;
            ExecutableElement e = (ExecutableElement) trees.getElement(getCurrentPath());
            within = nameOf(e);
            methods.put(within, e);
            calls.putIfAbsent(within, new TreeSet<>());
            super.visitMethod(tree, v);
            within = outer;
            return null;
        }

        @Override
        public Void visitMethodInvocation(MethodInvocationTree tree, Void v) {
            keepCall();
            return super.visitMethodInvocation(tree, v);
        }

        @Override
        public Void visitNewClass(NewClassTree tree, Void v) {
            keepCall();
            keepMade(tree.toString());
            return super.visitNewClass(tree, v);
        }

        @Override
        public Void visitNewArray(NewArrayTree tree, Void v) {
            keepMade(tree.toString());
            return super.visitNewArray(tree, v);
        }

        @Override
        public Void visitVariable(VariableTree tree, Void v) {
            Element e = trees.getElement(getCurrentPath());
            if (e instanceof VariableElement x && x.getKind() == ElementKind.FIELD
                    && x.getModifiers().contains(Modifier.STATIC)) {
                boolean isConstant = x.getModifiers().contains(Modifier.FINAL)
                    && STATIC_TYPES.contains(x.asType().toString());
                if (!isConstant) {
                    odd.add("static " + x);
                }
            }
            return super.visitVariable(tree, v);
        }

        @Override
        public Void visitForLoop(ForLoopTree tree, Void v) {
            loops++;
            super.visitForLoop(tree, v);
            loops--;
            return null;
        }

        @Override
        public Void visitEnhancedForLoop(EnhancedForLoopTree tree, Void v) {
            loops++;
            super.visitEnhancedForLoop(tree, v);
            loops--;
            return null;
        }

        @Override
        public Void visitWhileLoop(WhileLoopTree tree, Void v) {
            loops++;
            super.visitWhileLoop(tree, v);
            loops--;
            return null;
        }

        @Override
        public Void visitDoWhileLoop(DoWhileLoopTree tree, Void v) {
            loops++;
            super.visitDoWhileLoop(tree, v);
            loops--;
            return null;
        }

        private void keepMade(String what) {
            if (loops > 0) {
                madeInLoops.add(within + ": " + what);
            }
        }

        private void keepCall() {
            if (!(trees.getElement(getCurrentPath()) instanceof ExecutableElement e)) {
                odd.add("a call that is not known in " + within);
                return;
            }
            String owner = ((TypeElement) e.getEnclosingElement()).getQualifiedName().toString();
            if (!owner.equals("PoolTowels") && !owner.startsWith("PoolTowels.")) {
                if (!THROWN.contains(owner)) {
                    library.add(owner + "." + e);
                }
            } else {
                // What stands outside a method belongs to each constructor of its class.
                calls.computeIfAbsent(within == null ? fieldsOwner() : within, k -> new TreeSet<>()).add(nameOf(e));
            }
        }

        private String fieldsOwner() {
            for (var path = getCurrentPath(); path != null; path = path.getParentPath()) {
                if (trees.getElement(path) instanceof TypeElement type
                        && path.getLeaf() instanceof com.sun.source.tree.ClassTree) {
                    return type.getSimpleName() + ".<init>";
                }
            }
            return "?";
        }
    }

    private void check() {
        Checks.same("every method was seen", "true", Boolean.toString(methods.size() > 100));
        Set<String> beyond = new TreeSet<>(library);
        beyond.removeAll(LIBRARY);
        Checks.same("rule 4: nothing of the library but what is listed", "[]", beyond.toString());
        Checks.same("rule 5: static fields are constants", "[]", odd.toString());
        Checks.same("rule 12: nothing is made in a loop", "[]", madeInLoops.toString());
        for (String name : methods.keySet()) {
            boolean isFace = methods.get(name).getModifiers().contains(Modifier.PUBLIC);
            if (isFace) {
                List<String> chain = longest(name, new ArrayList<>(), new HashSet<>());
                Checks.same("rule 11: calls go at most eight deep: " + chain, "true",
                    Boolean.toString(chain.size() <= DEEPEST));
            }
            if (reaches(name, name, new HashSet<>())) {
                recursionIsGuarded(methods.get(name));
            }
        }
        noneIsIdle();
    }

    /** Rule 8: the depth is carried as an argument. */
    private static void recursionIsGuarded(ExecutableElement e) {
        boolean carried = false;
        for (VariableElement parameter : e.getParameters()) {
            carried |= parameter.getSimpleName().contentEquals("open");
        }
        Checks.same("rule 8: " + nameOf(e) + " carries its depth", "true", Boolean.toString(carried));
    }

    private void noneIsIdle() {
        Set<String> called = new HashSet<>();
        for (Set<String> some : calls.values()) {
            called.addAll(some);
        }
        for (String name : methods.keySet()) {
            boolean isUsed = called.contains(name) || methods.get(name).getModifiers().contains(Modifier.PUBLIC)
                || methods.get(name).getKind() == ElementKind.CONSTRUCTOR;
            Checks.same(name + " is used", "true", Boolean.toString(isUsed));
        }
    }

    private boolean reaches(String from, String goal, Set<String> seen) {
        for (String next : calls.getOrDefault(from, Set.of())) {
            if (next.equals(goal) || seen.add(next) && reaches(next, goal, seen)) {
                return true;
            }
        }
        return false;
    }

    private boolean together(String a, String b) {
        return a.equals(b) || reaches(a, b, new HashSet<>()) && reaches(b, a, new HashSet<>());
    }

    /** The longest chain of calls from here on; methods that call one another round stand in it once. */
    private List<String> longest(String name, List<String> chain, Set<String> seen) {
        boolean goesOn = !chain.isEmpty() && together(chain.get(chain.size() - 1), name);
        List<String> here = new ArrayList<>(chain);
        if (!goesOn) {
            here.add(name);
        }
        seen.add(name);
        List<String> best = here;
        for (String next : calls.getOrDefault(name, Set.of())) {
            if (!seen.contains(next)) {
                List<String> found = longest(next, here, seen);
                best = found.size() > best.size() ? found : best;
            }
        }
        seen.remove(name);
        return best;
    }
}
