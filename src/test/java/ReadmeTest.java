import java.io.IOException;
import java.lang.reflect.Method;
import java.lang.reflect.Modifier;
import java.net.URL;
import java.net.URLClassLoader;
import java.nio.file.Files;
import java.nio.file.Path;
import java.util.ArrayList;
import java.util.Comparator;
import java.util.List;
import java.util.regex.Matcher;
import java.util.regex.Pattern;
import java.util.stream.Stream;
import javax.tools.ToolProvider;

/** What README.md says is so: its example runs as it stands there, and it names each call and each test. */
public final class ReadmeTest {
    private static final Path README = Path.of("README.md");
    private static final Path TESTS = Path.of("src/test/java");
    // A call whose comment begins with a number, which is the answer that the page tells.
    private static final Pattern TOLD = Pattern.compile("(mill\\.\\w+\\(.*?\\)); +// (\\d+)\\b.*");

    private ReadmeTest() {
    }

    private static List<String> exampleIn(String page) {
        String opening = "```java\n";
        int from = page.indexOf(opening) + opening.length();
        return page.substring(from, page.indexOf("```", from)).lines().toList();
    }

    private static List<String> toldBy(List<String> example) {
        List<String> told = new ArrayList<>();
        for (String line : example) {
            Matcher call = TOLD.matcher(line);
            if (call.matches()) {
                told.add(call.group(1) + " " + call.group(2));
            }
        }
        return told;
    }

    /** A class whose run() makes the calls of the example and answers what they answered. */
    private static String programOf(List<String> example) {
        StringBuilder body = new StringBuilder();
        for (String line : example) {
            Matcher call = TOLD.matcher(line);
            if (call.matches()) {
                body.append("all.add(\"").append(call.group(1)).append(" \" + ").append(call.group(1)).append(");\n");
            } else {
                body.append(line).append('\n');
            }
        }
        return "public final class Example {\n"
                + "public static java.util.List<String> run() {\n"
                + "java.util.List<String> all = new java.util.ArrayList<>();\n"
                + body + "return all;\n}\n}\n";
    }

    private static Object runIn(Path folder, String program) throws IOException, ReflectiveOperationException {
        Path file = Files.writeString(folder.resolve("Example.java"), program);
        int failed = ToolProvider.getSystemJavaCompiler().run(null, null, null, "--release", "17",
                "-cp", System.getProperty("java.class.path"), "-d", folder.toString(), file.toString());
        Check.due("the example compiles", failed, 0);
        try (URLClassLoader loader = new URLClassLoader(new URL[] {folder.toUri().toURL()})) {
            return loader.loadClass("Example").getMethod("run").invoke(null);
        }
    }

    private static void remove(Path folder) throws IOException {
        try (Stream<Path> all = Files.walk(folder)) {
            for (Path each : all.sorted(Comparator.reverseOrder()).toList()) {
                Files.delete(each);
            }
        }
    }

    private static void exampleRuns(String page) throws IOException, ReflectiveOperationException {
        List<String> example = exampleIn(page);
        List<String> told = toldBy(example);
        Check.due("the example tells answers", told.size() >= 5, true);
        Path folder = Files.createTempDirectory("readme");
        try {
            Check.due("the example", runIn(folder, programOf(example)), told);
        } finally {
            remove(folder);
        }
    }

    private static void namesEachCall(String page) {
        for (Method call : Kerfhall.class.getDeclaredMethods()) {
            if (Modifier.isPublic(call.getModifiers())) {
                Check.due("the page names " + call.getName(), page.contains("`" + call.getName() + "`"), true);
            }
        }
    }

    private static void namesEachTest(String page) throws IOException {
        try (Stream<Path> files = Files.list(TESTS)) {
            for (Path file : files.toList()) {
                String name = file.getFileName().toString().replace(".java", "");
                Check.due("the page names " + name, page.contains("`" + name + "`") || page.contains("`" + name + " "), true);
            }
        }
    }

    public static void main(String[] args) throws IOException, ReflectiveOperationException {
        String page = Files.readString(README);
        exampleRuns(page);
        namesEachCall(page);
        namesEachTest(page);
        Check.end("ReadmeTest");
    }
}
