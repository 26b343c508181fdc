import java.io.IOException;
import java.lang.reflect.Method;
import java.net.URL;
import java.net.URLClassLoader;
import java.nio.file.Files;
import java.nio.file.Path;
import java.util.Comparator;
import java.util.Set;
import java.util.TreeSet;
import java.util.function.IntSupplier;
import java.util.regex.Matcher;
import java.util.regex.Pattern;
import java.util.stream.Collectors;
import java.util.stream.Stream;
import javax.tools.ToolProvider;

/**
 * README.md: its examples compile, and answer what stands behind the calls; its table names each test of the project, and
 * nothing else.
 */
public final class ReadmeTest {
    private static final Path PAGE = Path.of("README.md");
    private static final Path TESTS = Path.of("src/test/java");
    private static final Pattern EXAMPLE = Pattern.compile("```java\n(.*?)```", Pattern.DOTALL);
    private static final Pattern CALL = Pattern.compile("(house\\.\\w+\\(.*\\)); +// (-?\\d+|NONE|throws \\w+)(: .*)?");
    private static final Pattern ROW = Pattern.compile("(?m)^\\| (\\w+Test) \\|");
    private static int made = 0;
    private static int wrong = 0;

    private ReadmeTest() {
    }

    public static void main(String[] args) throws IOException, ReflectiveOperationException {
        String page = Files.readString(PAGE);
        Path directory = Files.createTempDirectory("readme");
        try {
            run(directory, program(page));
        } finally {
            delete(directory);
        }
        table(page);
        System.out.println("ReadmeTest: " + made + " checks, " + wrong + " wrong");
        if (wrong != 0) {
            System.exit(1);
        }
    }

    /** The examples call this; they are public strangers to this class, for they have a class loader of their own. */
    public static void due(String call, String want, IntSupplier answer) {
        String got;
        try {
            got = Integer.toString(answer.getAsInt());
        } catch (RuntimeException e) {
            got = "throws " + e.getClass().getSimpleName();
        }
        String due = want.equals("NONE") ? Integer.toString(StandIns.NONE) : want;
        check(got.equals(due), call + " answered " + got + ", the page says " + want);
    }

    private static void check(boolean good, String otherwise) {
        made++;
        if (!good) {
            wrong++;
            System.out.println("ReadmeTest: " + otherwise);
        }
    }

    /** A class whose method all does every example, each in a method of its own. */
    private static String program(String page) {
        StringBuilder methods = new StringBuilder();
        StringBuilder calls = new StringBuilder();
        Matcher example = EXAMPLE.matcher(page);
        for (int i = 0; example.find(); i++) {
            methods.append("private static void example").append(i).append("() {\n");
            example.group(1).lines().forEach(line -> methods.append(checked(line)).append('\n'));
            methods.append("}\n");
            calls.append("example").append(i).append("();\n");
        }
        check(calls.length() > 0, "there is no example");
        return "public final class Example {\npublic static void all() {\n" + calls + "}\n" + methods + "}\n";
    }

    private static String checked(String line) {
        Matcher call = CALL.matcher(line);
        if (call.matches()) {
            String text = call.group(1).replace("\"", "\\\"");
            return "ReadmeTest.due(\"" + text + "\", \"" + call.group(2) + "\", () -> " + call.group(1) + ");";
        }
        check(!line.startsWith("house."), "no answer stands behind " + line);
        return line;
    }

    private static void run(Path directory, String program) throws IOException, ReflectiveOperationException {
        Path source = Files.writeString(directory.resolve("Example.java"), program);
        int refused = ToolProvider.getSystemJavaCompiler().run(null, null, null, "-proc:none",
            "-cp", System.getProperty("java.class.path"), "-d", directory.toString(), source.toString());
        check(refused == 0, "the examples do not compile");
        if (refused == 0) {
            try (URLClassLoader loader = new URLClassLoader(new URL[] {directory.toUri().toURL()})) {
                Method all = loader.loadClass("Example").getMethod("all");
                all.invoke(null);
            }
        }
    }

    private static void delete(Path directory) throws IOException {
        try (Stream<Path> files = Files.walk(directory)) {
            for (Path file : files.sorted(Comparator.reverseOrder()).toList()) {
                Files.delete(file);
            }
        }
    }

    private static void table(String page) throws IOException {
        Set<String> due;
        try (Stream<Path> files = Files.list(TESTS)) {
            due = files.map(file -> file.getFileName().toString()).filter(name -> name.endsWith("Test.java"))
                .map(name -> name.replace(".java", "")).collect(Collectors.toCollection(TreeSet::new));
        }
        Set<String> got = new TreeSet<>();
        for (Matcher row = ROW.matcher(page); row.find();) {
            got.add(row.group(1));
        }
        check(got.equals(due), "the page names the tests " + got + ", but there are " + due);
    }
}
