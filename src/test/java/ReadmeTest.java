import java.io.IOException;
import java.lang.reflect.Method;
import java.lang.reflect.Modifier;
import java.nio.file.DirectoryStream;
import java.nio.file.Files;
import java.nio.file.Path;
import java.util.ArrayList;
import java.util.List;
import java.util.regex.Matcher;
import java.util.regex.Pattern;
import javax.tools.ToolProvider;

/** README.md: its example is compiled and each answer in it looked at; what it names is there. */
public final class ReadmeTest {
    private static final Path README = Path.of("README.md");
    private static final Path TESTS = Path.of("src/test/java");
    private static final Pattern ANSWERED = Pattern.compile("(x\\.(\\w+)\\(.*\\)); +// (-?\\d+): .+");

    public static void main(String[] args) throws IOException, ReflectiveOperationException {
        String page = Files.readString(README);
        List<String> example = example(page);
        everyCallIsAnswered(example);
        exampleAnswersSo(example);
        everyTestIsNamed(page);
        everyNamedFileIsThere(page);
        Check.due(".ci/run can be run", Files.isExecutable(Path.of(".ci/run")) ? 1 : 0, 1);
        Check.end();
    }

    private static List<String> example(String page) {
        Matcher block = Pattern.compile("(?s)```java\n(.*?)```").matcher(page);
        Check.due("there is an example", block.find() ? 1 : 0, 1);
        return block.group(1).lines().toList();
    }

    private static void everyCallIsAnswered(List<String> example) {
        List<String> shown = new ArrayList<>();
        for (String line : example) {
            Matcher answered = ANSWERED.matcher(line.strip());
            if (answered.matches()) {
                shown.add(answered.group(2));
            } else {
                // type stands in a loop, whose answers are not told
                Check.due("told without an answer: " + line, line.startsWith("x.") ? 1 : 0, 0);
                shown.add(line.strip().startsWith("x.type(") ? "type" : "");
            }
        }
        for (Method call : LockFlight.class.getDeclaredMethods()) {
            if (Modifier.isPublic(call.getModifiers())) {
                Check.due(call.getName() + " is in the example", shown.contains(call.getName()) ? 1 : 0, 1);
            }
        }
    }

    /** The example as a class of its own, in which each answer told is looked at. */
    private static void exampleAnswersSo(List<String> example) throws IOException, ReflectiveOperationException {
        StringBuilder source = new StringBuilder("class Example { static void go() {\n");
        for (String line : example) {
            Matcher answered = ANSWERED.matcher(line.strip());
            source.append(answered.matches()
                ? "Check.due(\"README: " + answered.group(1) + "\", " + answered.group(1) + ", " + answered.group(3) + "L);"
                : line).append('\n');
        }
        source.append("} }\n");
        Path out = Path.of(System.getProperty("java.class.path"));
        Path file = Files.writeString(out.resolve("Example.java"), source);
        int rc = ToolProvider.getSystemJavaCompiler().run(null, null, null,
            "-cp", out.toString(), "-d", out.toString(), file.toString());
        Check.due("the example compiles", rc, 0);
        Method go = Class.forName("Example").getDeclaredMethod("go");
        go.setAccessible(true);
        go.invoke(null);
    }

    private static void everyTestIsNamed(String page) throws IOException {
        try (DirectoryStream<Path> tests = Files.newDirectoryStream(TESTS, "*Test.java")) {
            for (Path test : tests) {
                String name = test.getFileName().toString().replace(".java", "");
                Check.due(name + " is named", page.contains("`" + name + "`") ? 1 : 0, 1);
            }
        }
    }

    private static void everyNamedFileIsThere(String page) {
        Matcher named = Pattern.compile("`([\\w./]+/[\\w./]+|[A-Z]\\w+[a-z]\\w*)`").matcher(page);
        while (named.find()) {
            String name = named.group(1);
            Path path = name.contains("/") ? Path.of(name) : TESTS.resolve(name + ".java");
            Check.due(name + " is there", Files.exists(path) ? 1 : 0, 1);
        }
    }
}
