import java.io.IOException;
import java.nio.file.Files;
import java.nio.file.Path;
import java.util.List;
import java.util.regex.Matcher;
import java.util.regex.Pattern;
import javax.tools.ToolProvider;

/** README.md: its examples answer what it says, its table of calls is whole, the tests that it names are there. */
public final class ReadmeTest {
    private static final Due DUE = new Due();
    private static final Path TESTS = Path.of("src/test/java");
    private static final List<String> PROMISES = List.of("a new object", "write", "wipe", "fault", "lay", "hit", "why",
            "nibble", "clamp", "sharpen", "undo", "station", "hole", "hits", "cell", "column", "plan", "drawn", "count");

    public static void main(String[] args) throws Exception {
        String readme = Files.readString(Path.of("README.md"));
        int examples = 0;
        Matcher block = Pattern.compile("(?s)```java\n(.*?)```").matcher(readme);
        while (block.find()) {
            example(examples, block.group(1));
            examples++;
        }
        DUE.holds("there are examples", examples > 0);
        tableOfCalls(readme);
        testsOfPromises(readme);
        DUE.end();
    }

    /** The example is compiled as it stands, each answer that is told behind a call being compared with it. */
    private static void example(int number, String lines) throws Exception {
        Matcher told = Pattern.compile("(?m)^(punch\\.\\w+\\(.*\\)); +// (-?\\d+) .*$").matcher(lines);
        DUE.holds("example " + number + " tells answers", told.find());
        String name = "Example" + number;
        String code = "public final class " + name + " { public static void main(String[] args) {\n"
                + told.replaceAll("ReadmeTest.answers(\"$1\", $1, $2);") + "} }\n";
        Path dir = Files.createTempDirectory("readme");
        Path file = Files.writeString(dir.resolve(name + ".java"), code);
        String classes = System.getProperty("java.class.path");
        int failed = ToolProvider.getSystemJavaCompiler().run(null, null, null, "-proc:none", "-cp", classes, "-d",
                dir.toString(), file.toString());
        DUE.is("what is wrong with the code of example " + number, failed, 0);
        if (failed == 0) {
            try (java.net.URLClassLoader loader = new java.net.URLClassLoader(
                    new java.net.URL[] {dir.toUri().toURL()}, ReadmeTest.class.getClassLoader())) {
                loader.loadClass(name).getMethod("main", String[].class).invoke(null, (Object) new String[0]);
            }
        }
        forget(dir, file, name);
    }

    private static void forget(Path dir, Path file, String name) throws IOException {
        Files.deleteIfExists(file);
        Files.deleteIfExists(dir.resolve(name + ".class"));
        Files.deleteIfExists(dir);
    }

    /** Called by the examples. */
    public static void answers(String call, int got, int want) {
        DUE.is("README.md: " + call, got, want);
    }

    private static void tableOfCalls(String readme) {
        for (String call : PROMISES.subList(1, PROMISES.size())) {
            DUE.holds("the table of calls has " + call, readme.contains("\n| `" + call + "("));
        }
        for (String answer : List.of("`BAD` (-1): ", "`NO` (-2): ", "`NONE` (-4): ", "`FULL` (-3): ")) {
            DUE.holds("README.md says what is meant by " + answer, readme.contains("\n- " + answer));
        }
    }

    private static void testsOfPromises(String readme) throws IOException {
        for (int i = 0; i < PROMISES.size(); i++) {
            String promise = (i + 1) + " " + PROMISES.get(i);
            Matcher row = Pattern.compile("(?m)^\\| " + promise + " \\|(.*)$").matcher(readme);
            boolean hasRow = row.find();
            DUE.holds("the table of tests has " + promise, hasRow);
            if (hasRow) {
                namedTests(row.group(1), promise);
            }
        }
    }

    private static void namedTests(String row, String promise) throws IOException {
        Matcher test = Pattern.compile("`(\\w+)\\.(\\w+)`").matcher(row);
        int named = 0;
        while (test.find()) {
            named++;
            Path file = TESTS.resolve(test.group(1) + ".java");
            String code = Files.exists(file) ? Files.readString(file) : "";
            DUE.holds("there is " + test.group() + " for " + promise,
                    code.contains("    private static void " + test.group(2) + "() {")
                    && code.contains("        " + test.group(2) + "();\n"));
        }
        DUE.holds("tests are named for " + promise, named > 1);
    }
}
