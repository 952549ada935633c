import com.sun.source.tree.ClassTree;
import com.sun.source.tree.CompilationUnitTree;
import com.sun.source.tree.MethodTree;
import com.sun.source.util.JavacTask;
import com.sun.source.util.SourcePositions;
import com.sun.source.util.Trees;
import java.io.IOException;
import java.util.HashMap;
import java.util.HashSet;
import java.util.List;
import java.util.Map;
import java.util.Set;
import javax.lang.model.element.Element;
import javax.tools.JavaCompiler;
import javax.tools.StandardJavaFileManager;
import javax.tools.ToolProvider;

/**
 * The rules of LANGUAGE.md, by their numbers, looked for in the file as the compiler understands it. Where a
 * rule allows more than the class needs (while, recursion, doubles, casts among own classes), the test refuses
 * what is not needed: whoever needs it teaches the test to look at it.
 */
public final class LanguageTest {
    private static final String FILE = "src/main/java/TurretPunch.java";
    private static final int MOST_LINES = 60;
    private static final int MOST_DEEP = 8;
    private static final int MOST_CLASSES = 12;
    private static final int MOST_FIELDS = 20;
    private static final int MOST_PARAMETERS = 7;
    private static final Due DUE = new Due();

    public static void main(String[] args) throws IOException {
        JavaCompiler compiler = ToolProvider.getSystemJavaCompiler();
        try (StandardJavaFileManager files = compiler.getStandardFileManager(null, null, null)) {
            JavacTask task = (JavacTask) compiler.getTask(null, files, null, List.of("-proc:none", "--release", "17"),
                    null, files.getJavaFileObjects(FILE));
            CompilationUnitTree file = task.parse().iterator().next();
            task.analyze();
            CodeLook look = new CodeLook(DUE, file, Trees.instance(task));
            look.scan(file, null);
            signs(file.getSourceFile().getCharContent(false));
            oneClass(file);
            sizes(look, file, Trees.instance(task).getSourcePositions());
            depths(look.calls);
        }
        DUE.end();
    }

    private static void signs(CharSequence code) {
        DUE.holds("rule 4: the file's signs are of ASCII", code.chars().allMatch(c -> c >= 1 && c <= 127));
    }

    private static void oneClass(CompilationUnitTree file) {
        DUE.holds("the file has no package line", file.getPackageName() == null);
        DUE.holds("the file has one class, the others are inside it", file.getTypeDecls().size() == 1);
    }

    private static void sizes(CodeLook look, CompilationUnitTree file, SourcePositions places) {
        DUE.holds("rule 11: at most twelve classes", look.classes.size() <= MOST_CLASSES);
        for (ClassTree c : look.classes) {
            DUE.holds("rule 11: at most twenty fields of " + c.getSimpleName(), look.fieldsOf(c) <= MOST_FIELDS);
        }
        for (MethodTree m : look.methods) {
            long first = file.getLineMap().getLineNumber(places.getStartPosition(file, m));
            long last = file.getLineMap().getLineNumber(places.getEndPosition(file, m));
            DUE.holds("rule 11: " + m.getName() + " has at most sixty lines", last - first < MOST_LINES);
            DUE.holds("rule 11: " + m.getName() + " has at most seven parameters",
                    m.getParameters().size() <= MOST_PARAMETERS);
        }
    }

    private static void depths(Map<Element, Set<Element>> calls) {
        Map<Element, Integer> known = new HashMap<>();
        for (Element method : calls.keySet()) {
            int deep = depth(method, calls, known, new HashSet<>());
            DUE.holds("rule 11: calls from " + method + " go at most eight deep, not " + deep, deep <= MOST_DEEP);
        }
    }

    /** How many calls stand open at once, this one too; the class has no recursion. */
    private static int depth(Element method, Map<Element, Set<Element>> calls, Map<Element, Integer> known,
            Set<Element> open) {
        if (known.containsKey(method)) {
            return known.get(method);
        }
        boolean isNew = open.add(method);
        DUE.holds("rule 8: " + method + " does not come to itself again", isNew);
        int deepest = 0;
        if (isNew) {
            for (Element called : calls.getOrDefault(method, Set.of())) {
                deepest = Math.max(deepest, depth(called, calls, known, open));
            }
            open.remove(method);
        }
        known.put(method, deepest + 1);
        return deepest + 1;
    }
}
