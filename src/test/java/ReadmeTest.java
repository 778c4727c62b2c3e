import java.io.IOException;
import java.lang.reflect.Method;
import java.lang.reflect.Modifier;
import java.net.URL;
import java.net.URLClassLoader;
import java.nio.charset.StandardCharsets;
import java.nio.file.Files;
import java.nio.file.Path;
import java.util.ArrayList;
import java.util.List;
import java.util.Set;
import java.util.TreeSet;
import java.util.regex.Matcher;
import java.util.regex.Pattern;
import java.util.stream.Stream;
import javax.tools.ToolProvider;

/**
 * README.md's Java is compiled as it stands there and run: behind each call stands what it answers.
 * Takes the path of the class's source.
 */
public final class ReadmeTest {
    private static final Pattern SHOWN = Pattern.compile("(x\\.(\\w+)\\(.*\\)); +// (throws )?([-\\w]+)(: .*)?");
    private static final String MADE = "ShownInReadme";

    private static final Set<String> methodsShown = new TreeSet<>();

    public static void main(String[] args) throws Exception {
        Path project = Path.of(args[0]).toAbsolutePath().getParent().getParent().getParent().getParent();
        List<String> lines = Files.readAllLines(project.resolve("README.md"), StandardCharsets.US_ASCII);
        run(source(lines));
        eachMethodIsShown();
        eachTestIsTold(lines, project.resolve("src/test/java"));
        Check.finish();
    }

    /** Blocks that begin with 'static' are functions for all; each other one is a run of its own. */
    private static String source(List<String> lines) {
        StringBuilder functions = new StringBuilder();
        StringBuilder runs = new StringBuilder();
        int runCount = 0;
        for (int i = 0; i < lines.size(); i++) {
            if (lines.get(i).equals("```java")) {
                int first = i + 1;
                i = closing(lines, first);
                if (lines.get(first).startsWith("static ")) {
                    functions.append(String.join("\n", lines.subList(first, i))).append("\n\n");
                } else {
                    runs.append("static void run").append(runCount++).append("() {\n");
                    appendRun(runs, lines, first, i);
                    runs.append("}\n\n");
                }
            }
        }
        Check.due("README.md shows runs", runCount > 0, true);
        StringBuilder main = new StringBuilder("public static void main(String[] args) {\n");
        for (int r = 0; r < runCount; r++) {
            main.append("run").append(r).append("();\n");
        }
        return "public final class " + MADE + " {\n" + functions + runs + main + "}\n}\n";
    }

    private static int closing(List<String> lines, int first) {
        int i = first;
        while (!lines.get(i).equals("```")) {
            i++;
        }
        return i;
    }

    private static void appendRun(StringBuilder to, List<String> lines, int first, int last) {
        for (int i = first; i < last; i++) {
            Matcher shown = SHOWN.matcher(lines.get(i));
            if (shown.matches()) {
                methodsShown.add(shown.group(2));
                String where = "\"README.md, line " + (i + 1) + ": \"";
                String call = "() -> String.valueOf(" + shown.group(1) + ")";
                to.append("ReadmeTest.shown(" + where + ", " + call + ", \"" + shown.group(4) + "\");\n");
            } else {
                Check.due("line " + (i + 1) + " of README.md shows a call with its answer, or needs none",
                        lines.get(i).startsWith("x."), false);
                to.append(lines.get(i)).append('\n');
            }
        }
    }

    /** Public, for what is made of README.md is loaded by another loader. */
    public interface Shown {
        String answer();
    }

    public static void shown(String where, Shown call, String told) {
        String got;
        try {
            got = call.answer();
        } catch (RuntimeException e) {
            got = e.getClass().getSimpleName();
        }
        Check.due(where + "told " + told + ", answered " + got, got.equals(told), true);
    }

    private static void run(String source) throws Exception {
        Path made = Files.createTempDirectory("readme");
        try {
            Path file = made.resolve(MADE + ".java");
            Files.writeString(file, source, StandardCharsets.US_ASCII);
            int failed = ToolProvider.getSystemJavaCompiler().run(null, null, null, "-Xlint:all", "-d", made.toString(),
                    "-cp", System.getProperty("java.class.path"), file.toString());
            Check.due("README.md's Java compiles", failed, 0);
            if (failed == 0) {
                try (URLClassLoader loader = new URLClassLoader(new URL[] {made.toUri().toURL()})) {
                    loader.loadClass(MADE).getMethod("main", String[].class).invoke(null, (Object) new String[0]);
                }
            }
        } finally {
            delete(made);
        }
    }

    private static void delete(Path directory) throws IOException {
        try (Stream<Path> files = Files.list(directory)) {
            for (Path file : files.toList()) {
                Files.delete(file);
            }
        }
        Files.delete(directory);
    }

    private static void eachMethodIsShown() {
        for (Method m : BetweenThem.class.getDeclaredMethods()) {
            if (Modifier.isPublic(m.getModifiers())) {
                Check.due("README.md shows " + m.getName(), methodsShown.contains(m.getName()), true);
            }
        }
    }

    private static void eachTestIsTold(List<String> lines, Path tests) throws IOException {
        Set<String> told = new TreeSet<>();
        for (String line : lines) {
            Matcher row = Pattern.compile("\\| (\\w+Test) \\|.*").matcher(line);
            if (row.matches()) {
                told.add(row.group(1));
            }
        }
        List<String> there = new ArrayList<>();
        try (Stream<Path> files = Files.list(tests)) {
            files.map(f -> f.getFileName().toString()).filter(n -> n.endsWith("Test.java")).sorted()
                    .forEach(n -> there.add(n.substring(0, n.length() - ".java".length())));
        }
        Check.due("README.md tells of the tests " + there + ": " + told, List.copyOf(told).equals(there), true);
    }

    private ReadmeTest() {
    }
}
