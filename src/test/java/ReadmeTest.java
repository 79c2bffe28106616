import java.io.ByteArrayOutputStream;
import java.io.IOException;
import java.io.PrintStream;
import java.net.URL;
import java.net.URLClassLoader;
import java.nio.file.Files;
import java.nio.file.Path;
import java.util.Arrays;
import java.util.List;
import java.util.Set;
import java.util.TreeSet;
import java.util.regex.Matcher;
import java.util.regex.Pattern;
import java.util.stream.Collectors;
import java.util.stream.Stream;
import javax.tools.ToolProvider;

/** Does what README.md says: its program, its table of calls, its list of tests. */
public final class ReadmeTest {
    private static final Check CHECK = new Check();

    public static void main(String[] args) throws IOException, ReflectiveOperationException {
        Path root = Path.of(args[0]);
        String readme = Files.readString(root.resolve("README.md"));
        program(root, readme);
        calls(readme, Files.readString(Path.of(args[1]).resolve("DOC.md")));
        tests(root, readme);
        CHECK.finish();
    }

    private static void program(Path root, String readme) throws IOException, ReflectiveOperationException {
        Path folder = Files.createTempDirectory("readme");
        try {
            Path walk = folder.resolve("Walk.java");
            Files.writeString(walk, block(readme, "java"));
            int refused = ToolProvider.getSystemJavaCompiler().run(null, null, null, "-encoding", "UTF-8", "-d",
                    folder.toString(), root.resolve("src/main/java/TrailGuide.java").toString(), walk.toString());
            CHECK.due("the compiler on the program of README.md", 0, () -> refused);
            if (refused == 0) {
                String printed = printedBy(folder);
                CHECK.due("the program of README.md", block(readme, "text"), () -> printed);
            }
        } finally {
            delete(folder);
        }
    }

    private static String block(String readme, String kind) {
        Matcher found = Pattern.compile("(?s)```" + kind + "\n(.*?)```").matcher(readme);
        return found.find() ? found.group(1) : "";
    }

    private static String printedBy(Path folder) throws IOException, ReflectiveOperationException {
        PrintStream out = System.out;
        ByteArrayOutputStream printed = new ByteArrayOutputStream();
        // Without a parent of the tests, so that the classes are those that the compiler has just made.
        try (URLClassLoader loader = new URLClassLoader(new URL[] {folder.toUri().toURL()},
                ClassLoader.getPlatformClassLoader())) {
            System.setOut(new PrintStream(printed, true));
            loader.loadClass("Walk").getMethod("main", String[].class).invoke(null, (Object) new String[0]);
        } finally {
            System.setOut(out);
        }
        return printed.toString().replace(System.lineSeparator(), "\n");
    }

    private static void delete(Path folder) throws IOException {
        try (Stream<Path> files = Files.list(folder)) {
            for (Path file : files.toList()) {
                Files.delete(file);
            }
        }
        Files.delete(folder);
    }

    private static void calls(String readme, String document) {
        List<String> want = Pattern.compile("(?m)^    public \\w+ (\\w+)\\((.*?)\\)(?: throws (.*?))?;")
                .matcher(document).results().map(call -> call.group(1) + "(" + namesIn(call.group(2)) + ") "
                        + String.valueOf(call.group(3)).replace("null", "").replaceAll("\\w+\\.", "")).toList();
        List<String> got = Pattern.compile("(?m)^\\| `(\\w+\\(.*?\\))` \\| [^|]+ \\| (.*?) ?\\|$").matcher(readme)
                .results().map(row -> row.group(1) + " " + inFull(readme, row.group(2))).toList();
        CHECK.due("the calls of the document", 52, () -> want.size());
        CHECK.due("the table of calls in README.md", want, () -> got);
    }

    private static String namesIn(String parameters) {
        return parameters.replaceAll("\\w+ (\\w+)", "$1");
    }

    /** The names of the exceptions, which a table of README.md shortens. */
    private static String inFull(String readme, String shortNames) {
        return Arrays.stream(shortNames.split(", ")).filter(name -> !name.isEmpty()).map(name -> {
            Matcher row = Pattern.compile("(?m)^\\| " + name + " \\| `(\\w+)` \\|").matcher(readme);
            return row.find() ? row.group(1) : name + " without a row";
        }).collect(Collectors.joining(", "));
    }

    private static void tests(Path root, String readme) throws IOException {
        Set<String> want = new TreeSet<>();
        try (Stream<Path> files = Files.list(root.resolve("src/test/java"))) {
            files.map(file -> file.getFileName().toString()).filter(name -> name.endsWith("Test.java"))
                    .forEach(name -> want.add(name.replace(".java", "")));
        }
        Set<String> got = Pattern.compile("(?m)^- `(\\w+Test)`: ").matcher(readme).results()
                .map(row -> row.group(1)).collect(Collectors.toCollection(TreeSet::new));
        CHECK.due("the tests that README.md names", want, () -> got);
    }
}
