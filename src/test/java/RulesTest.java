import com.sun.source.tree.ClassTree;
import com.sun.source.tree.CompilationUnitTree;
import com.sun.source.tree.MethodInvocationTree;
import com.sun.source.tree.MethodTree;
import com.sun.source.tree.NewArrayTree;
import com.sun.source.tree.NewClassTree;
import com.sun.source.tree.Tree;
import com.sun.source.tree.VariableTree;
import com.sun.source.util.JavacTask;
import com.sun.source.util.TreePathScanner;
import com.sun.source.util.Trees;
import java.io.IOException;
import java.nio.file.Files;
import java.nio.file.Path;
import java.util.ArrayList;
import java.util.HashMap;
import java.util.LinkedHashMap;
import java.util.LinkedHashSet;
import java.util.List;
import java.util.Map;
import java.util.Set;
import javax.lang.model.element.Element;
import javax.lang.model.element.ElementKind;
import javax.lang.model.element.Modifier;
import javax.tools.JavaCompiler;
import javax.tools.StandardJavaFileManager;
import javax.tools.ToolProvider;

/** The class as javac reads it, held against those rules of LANGUAGE.md that can be counted or looked up. */
public final class RulesTest {
    private static final String SOURCE = "src/main/java/HelterSlide.java";
    private static final int MOST_DEEP = 8;
    private static final int MOST_LINES = 60;
    private static final int MOST_PARAMETERS = 7;
    private static final int MOST_CLASSES = 12;
    private static final int MOST_FIELDS = 20;
    private static final Set<String> LIBRARY = Set.of(
            "System.arraycopy", "Arrays.fill", "Math.min", "Math.max", "Integer.bitCount", "Object.<init>");
    private static final Set<String> CONSTANTS = Set.of(
            "int", "long", "boolean", "char", "java.lang.String", "int[]", "long[]", "char[]", "byte[]");
    private static final Set<Tree.Kind> LEFT_OUT = Set.of(
            Tree.Kind.TRY, Tree.Kind.CATCH, Tree.Kind.THROW, Tree.Kind.LAMBDA_EXPRESSION,
            Tree.Kind.MEMBER_REFERENCE, Tree.Kind.SYNCHRONIZED, Tree.Kind.ASSERT, Tree.Kind.INSTANCE_OF);

    private static int wrong = 0;

    private static void fault(String rule, String what) {
        wrong++;
        System.out.println("rule " + rule + ": " + what);
    }

    private static void atMost(String rule, String what, int most, long found) {
        if (found > most) {
            fault(rule, what + " is " + found + ", " + most + " at most");
        }
    }

    private static String nameOf(Element e) {
        return e.getEnclosingElement().getSimpleName() + "." + e.getSimpleName();
    }

    /** What stands in the file, and which of its methods calls which. */
    private static final class Reader extends TreePathScanner<Void, Void> {
        final Map<Element, Set<Element>> calls = new LinkedHashMap<>();
        final Set<Element> classes = new LinkedHashSet<>();
        final Trees trees;
        final CompilationUnitTree file;
        Element caller = null;

        Reader(Trees trees, CompilationUnitTree file) {
            this.trees = trees;
            this.file = file;
        }

        private Element here() {
            return trees.getElement(getCurrentPath());
        }

        private long lines(Tree tree) {
            long start = trees.getSourcePositions().getStartPosition(file, tree);
            long end = trees.getSourcePositions().getEndPosition(file, tree);
            return end < 0 ? 0 : file.getLineMap().getLineNumber(end) - file.getLineMap().getLineNumber(start) + 1;
        }

        @Override
        public Void scan(Tree tree, Void nothing) {
            if (tree != null && LEFT_OUT.contains(tree.getKind())) {
                fault("6", tree.getKind() + " in " + caller);
            }
            return super.scan(tree, nothing);
        }

        @Override
        public Void visitClass(ClassTree tree, Void nothing) {
            classes.add(here());
            long fields = tree.getMembers().stream().filter(m -> m instanceof VariableTree v
                    && !v.getModifiers().getFlags().contains(Modifier.STATIC)).count();
            atMost("11", "how many fields " + tree.getSimpleName() + " has", MOST_FIELDS, fields);
            return super.visitClass(tree, nothing);
        }

        @Override
        public Void visitVariable(VariableTree tree, Void nothing) {
            Element e = here();
            boolean isStatic = e.getKind() == ElementKind.FIELD && e.getModifiers().contains(Modifier.STATIC);
            if (isStatic && (!e.getModifiers().contains(Modifier.FINAL) || !CONSTANTS.contains(e.asType().toString()))) {
                fault("5", "not a constant: " + nameOf(e));
            }
            return super.visitVariable(tree, nothing);
        }

        @Override
        public Void visitMethod(MethodTree tree, Void nothing) {
            caller = here();
            calls.put(caller, new LinkedHashSet<>());
            atMost("11", "how long " + nameOf(caller) + " is", MOST_LINES, lines(tree));
            atMost("11", "how many parameters " + nameOf(caller) + " takes", MOST_PARAMETERS,
                    tree.getParameters().size());
            super.visitMethod(tree, nothing);
            caller = null;
            return null;
        }

        @Override
        public Void visitMethodInvocation(MethodInvocationTree tree, Void nothing) {
            if (caller != null) {
                calls.get(caller).add(here());
            }
            return super.visitMethodInvocation(tree, nothing);
        }

        @Override
        public Void visitNewClass(NewClassTree tree, Void nothing) {
            noneMadeByACall();
            if (caller != null) {
                calls.get(caller).add(here());
            }
            return super.visitNewClass(tree, nothing);
        }

        @Override
        public Void visitNewArray(NewArrayTree tree, Void nothing) {
            noneMadeByACall();
            return super.visitNewArray(tree, nothing);
        }

        /** Stricter than rule 12: what is made with the object alone can't fill the room, however many calls come. */
        private void noneMadeByACall() {
            if (caller != null && caller.getKind() != ElementKind.CONSTRUCTOR) {
                fault("12", nameOf(caller) + " makes an object or array");
            }
        }
    }

    /** How many calls stand open at most, from each method on, the longest way told with it. */
    private static final class Depths {
        final Map<Element, Set<Element>> calls;
        final Map<Element, List<String>> known = new HashMap<>();
        final Set<Element> open = new LinkedHashSet<>();

        Depths(Map<Element, Set<Element>> calls) {
            this.calls = calls;
        }

        List<String> longestFrom(Element method) {
            if (known.containsKey(method)) {
                return known.get(method);
            }
            if (!open.add(method)) {
                fault("8", nameOf(method) + " calls itself");
                return List.of();
            }
            List<String> longest = List.of();
            for (Element called : calls.getOrDefault(method, Set.of())) {
                List<String> way = longestFrom(called);
                longest = way.size() > longest.size() ? way : longest;
            }
            open.remove(method);
            List<String> way = new ArrayList<>(List.of(nameOf(method)));
            way.addAll(longest);
            known.put(method, way);
            return way;
        }
    }

    private static void depths(Map<Element, Set<Element>> calls) {
        Depths depths = new Depths(calls);
        for (Element method : calls.keySet()) {
            List<String> way = depths.longestFrom(method);
            atMost("11", "how deep " + String.join(" > ", way) + " goes", MOST_DEEP, way.size());
        }
    }

    private static void library(Map<Element, Set<Element>> calls) {
        for (Map.Entry<Element, Set<Element>> entry : calls.entrySet()) {
            for (Element called : entry.getValue()) {
                if (!calls.containsKey(called) && !LIBRARY.contains(nameOf(called))) {
                    fault("4", nameOf(entry.getKey()) + " calls " + nameOf(called));
                }
            }
        }
    }

    private static Reader read(Path source) throws IOException {
        JavaCompiler compiler = ToolProvider.getSystemJavaCompiler();
        try (StandardJavaFileManager files = compiler.getStandardFileManager(null, null, null)) {
            JavacTask task = (JavacTask) compiler.getTask(null, files, null, List.of("--release", "17"), null,
                    files.getJavaFileObjects(source));
            CompilationUnitTree file = task.parse().iterator().next();
            task.analyze();
            Reader reader = new Reader(Trees.instance(task), file);
            reader.scan(file, null);
            return reader;
        }
    }

    private static void signs(Path source) throws IOException {
        for (byte b : Files.readAllBytes(source)) {
            if (b < 1) {
                fault("4", "a sign that is not 1 to 127");
                return;
            }
        }
    }

    public static void main(String[] args) throws IOException {
        Path source = Path.of(args.length > 0 ? args[0] : SOURCE);
        Reader reader = read(source);
        signs(source);
        atMost("11", "how many classes there are", MOST_CLASSES, reader.classes.size());
        depths(reader.calls);
        library(reader.calls);
        System.out.println("rules: " + reader.calls.size() + " methods, " + wrong + " faults");
        if (wrong != 0 || reader.calls.isEmpty()) {
            System.exit(1);
        }
    }
}
