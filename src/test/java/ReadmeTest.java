import java.io.IOException;
import java.lang.reflect.Method;
import java.lang.reflect.Modifier;
import java.net.URL;
import java.net.URLClassLoader;
import java.nio.file.Files;
import java.nio.file.Path;
import java.util.List;
import java.util.Set;
import java.util.TreeSet;
import java.util.regex.Matcher;
import java.util.regex.Pattern;
import java.util.stream.Stream;
import javax.tools.ToolProvider;

/**
 * The run of calls in README.md: it is made a program, and each call must answer what stands behind it
 * as "// = 5" or "// = 5: and why". All tests and all calls must be named on the page.
 */
public final class ReadmeTest {
    private static final Pattern CALL = Pattern.compile("(int (\\w+) = )?(x\\..*\\)); *// = ([^:]*)(:.*)?");

    private static int checks = 0;

    public static void main(String[] args) throws IOException, ReflectiveOperationException {
        Path root = Path.of(args.length > 0 ? args[0] : ".");
        List<String> page = Files.readAllLines(root.resolve("README.md"));
        runExample(program(page));
        nameAll(root, String.join("\n", page));
        Script.report("calls with an answer on the page, more than 10", String.valueOf(checks > 10), "true");
        new Script("the page").run("clock() = 0");
        Script.end();
    }

    private static String program(List<String> page) {
        StringBuilder text = new StringBuilder("public final class Example { public static void main(String[] args) {\n");
        int start = page.indexOf("```java");
        for (int i = start + 1; start >= 0 && !page.get(i).equals("```"); i++) {
            text.append(checked(page.get(i))).append('\n');
        }
        return text.append("} }\n").toString();
    }

    /** The line, with a look at the answer that it promises. */
    private static String checked(String line) {
        Matcher call = CALL.matcher(line);
        if (!call.matches()) {
            return line;
        }
        checks++;
        String name = call.group(2) == null ? "answer" + checks : call.group(2);
        return "var " + name + " = " + call.group(3) + "; ReadmeTest.look(\"" + call.group(3) + "\", " + name + ", \""
            + call.group(4).trim() + "\");";
    }

    /** For the program that is made from the page. */
    public static void look(String call, Object got, String due) {
        Script.report("README.md: " + call, String.valueOf(got), due);
    }

    private static void runExample(String program) throws IOException, ReflectiveOperationException {
        Path directory = Files.createTempDirectory("readme");
        Path source = Files.writeString(directory.resolve("Example.java"), program);
        int exit = ToolProvider.getSystemJavaCompiler().run(null, null, null, "-cp", System.getProperty("java.class.path"),
            "-d", directory.toString(), source.toString());
        Script.report("compiling the run of calls in README.md", String.valueOf(exit), "0");
        if (exit == 0) {
            try (URLClassLoader loader = new URLClassLoader(new URL[] {directory.toUri().toURL()})) {
                loader.loadClass("Example").getMethod("main", String[].class).invoke(null, (Object) new String[0]);
            }
        }
        Files.deleteIfExists(directory.resolve("Example.class"));
        Files.delete(source);
        Files.delete(directory);
    }

    private static void nameAll(Path root, String page) throws IOException {
        Set<String> names = new TreeSet<>();
        for (Method method : JoinRuntime.class.getDeclaredMethods()) {
            if (Modifier.isPublic(method.getModifiers())) {
                names.add("`" + method.getName() + "`");
            }
        }
        try (Stream<Path> files = Files.list(root.resolve("src/test/java"))) {
            files.map(file -> file.getFileName().toString()).filter(name -> name.endsWith("Test.java"))
                .forEach(name -> names.add("| " + name.replace(".java", " |")));
        }
        for (String name : names) {
            Script.report("README.md names " + name, String.valueOf(page.contains(name)), "true");
        }
    }
}
