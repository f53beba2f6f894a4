import java.io.IOException;
import java.lang.reflect.Method;
import java.lang.reflect.Modifier;
import java.net.URL;
import java.net.URLClassLoader;
import java.nio.file.Files;
import java.nio.file.Path;
import java.util.Comparator;
import java.util.List;
import java.util.regex.Matcher;
import java.util.regex.Pattern;
import java.util.stream.Stream;
import javax.tools.ToolProvider;

/** The example of README.md is compiled as it stands there, and each call answers what the remark behind it begins with. */
public final class ReadmeTest {
    private static final Check CHECK = new Check("ReadmeTest");

    private static final Pattern EXAMPLE = Pattern.compile("```java\\n(.*?)```", Pattern.DOTALL);
    private static final Pattern ANSWERED = Pattern.compile("(?m)^(x\\.(\\w+)\\(.*\\)); +// (-?\\d+)\\b.*$");

    public static void main(String[] args) throws Exception {
        String readme = Files.readString(Path.of("README.md"));
        Matcher example = EXAMPLE.matcher(readme);
        CHECK.that("README has an example", example.find());
        String body = checked(example.group(1));
        Path folder = Files.createTempDirectory("readme");
        try {
            run(folder, "public final class Example {\n    public static void main(String[] args) {\n" + body + "    }\n}\n");
        } finally {
            removeAll(folder);
        }
        for (Method call : RememberedAsSunny.class.getDeclaredMethods()) {
            if (Modifier.isPublic(call.getModifiers())) {
                CHECK.that("README names " + call.getName(), readme.contains("`" + call.getName() + "`"));
            }
        }
        try (Stream<Path> tests = Files.list(Path.of("src/test/java"))) {
            for (Path test : tests.filter(t -> t.toString().endsWith("Test.java")).toList()) {
                String name = test.getFileName().toString().replace(".java", "");
                CHECK.that("README names " + name, Pattern.compile("(?m)^\\|.*\\b" + name + "\\b.* \\|").matcher(readme).find());
            }
        }
        CHECK.end();
    }

    /** For the example, which another loader brings: to it the test's other members are closed. */
    public static void due(String call, long got, long want) {
        CHECK.due(call, got, want);
    }

    /** The example, with its answers looked at; every line that calls x alone must tell one. */
    private static String checked(String example) {
        for (String line : example.split("\n")) {
            CHECK.that("an answer is told: " + line, !line.startsWith("x.") || ANSWERED.matcher(line).matches());
        }
        return ANSWERED.matcher(example).replaceAll("ReadmeTest.due(\"README: $2\", $1, $3L);");
    }

    private static void run(Path folder, String source) throws Exception {
        Path file = folder.resolve("Example.java");
        Files.writeString(file, source);
        List<String> words = List.of("-cp", System.getProperty("java.class.path"), "-d", folder.toString(), file.toString());
        int exit = ToolProvider.getSystemJavaCompiler().run(null, null, null, words.toArray(new String[0]));
        CHECK.due("javac of the example", exit, 0);
        if (exit == 0) {
            try (URLClassLoader loader = new URLClassLoader(new URL[] {folder.toUri().toURL()})) {
                loader.loadClass("Example").getMethod("main", String[].class).invoke(null, (Object) new String[0]);
            }
        }
    }

    private static void removeAll(Path folder) throws IOException {
        try (Stream<Path> all = Files.walk(folder)) {
            for (Path path : all.sorted(Comparator.reverseOrder()).toList()) {
                Files.delete(path);
            }
        }
    }
}
