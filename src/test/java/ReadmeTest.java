import java.io.IOException;
import java.lang.reflect.Method;
import java.lang.reflect.Modifier;
import java.net.URL;
import java.net.URLClassLoader;
import java.nio.file.Files;
import java.nio.file.Path;
import java.util.ArrayList;
import java.util.List;
import java.util.regex.Matcher;
import java.util.regex.Pattern;
import javax.tools.ToolProvider;

/** Whether README.md tells the truth: its example answers as its comments say, and no call is left out. */
public final class ReadmeTest {
    /** A line of the example: perhaps a variable, what is called, and the answer that is due. */
    private static final Pattern CALL = Pattern.compile("(?:int (\\w+) = )?(names\\..*);\\s*// (-?\\d+|true|false)\\b.*");

    private static final Pattern EXAMPLE = Pattern.compile("```java\n(.*?)```", Pattern.DOTALL);

    private static final List<String> faults = new ArrayList<>();
    private static int held = 0;

    /** Called by the example that is made of README.md. */
    public static void due(String call, Object got, Object want) {
        held++;
        if (!got.equals(want)) {
            faults.add(call + " answered " + got + ", README.md says " + want);
        }
    }

    private static String example(String readme) {
        Matcher found = EXAMPLE.matcher(readme);
        return found.find() ? found.group(1) : "";
    }

    private static String checked(String line) {
        Matcher call = CALL.matcher(line);
        if (!call.matches()) {
            if (line.contains("names.")) {
                faults.add("no answer stands behind: " + line);
            }
            return line;
        }
        String text = '"' + call.group(2) + '"';
        if (call.group(1) == null) {
            return "ReadmeTest.due(" + text + ", " + call.group(2) + ", " + call.group(3) + ");";
        }
        return "int " + call.group(1) + " = " + call.group(2) + ";\n"
            + "ReadmeTest.due(" + text + ", " + call.group(1) + ", " + call.group(3) + ");";
    }

    private static String program(String example) {
        StringBuilder made = new StringBuilder("public final class Example {\npublic static void run() {\n");
        for (String line : example.split("\n")) {
            made.append(checked(line)).append('\n');
        }
        return made.append("}\n}\n").toString();
    }

    private static void run(String program) throws Exception {
        Path directory = Files.createTempDirectory("readme");
        Path source = directory.resolve("Example.java");
        try {
            Files.writeString(source, program);
            int failed = ToolProvider.getSystemJavaCompiler().run(null, null, null,
                "-cp", System.getProperty("java.class.path"), "-d", directory.toString(), source.toString());
            if (failed != 0) {
                faults.add("the example does not compile");
                return;
            }
            try (URLClassLoader loader = new URLClassLoader(new URL[] {directory.toUri().toURL()})) {
                loader.loadClass("Example").getMethod("run").invoke(null);
            }
        } finally {
            remove(directory);
        }
    }

    private static void remove(Path directory) throws IOException {
        Files.deleteIfExists(directory.resolve("Example.java"));
        Files.deleteIfExists(directory.resolve("Example.class"));
        Files.deleteIfExists(directory);
    }

    private static void tellsOfEveryCall(String readme) {
        String example = example(readme);
        for (Method m : NameNumbers.class.getDeclaredMethods()) {
            if (!Modifier.isPublic(m.getModifiers())) {
                continue;
            }
            String parameters = "\\w+, ".repeat(m.getParameterCount()).replaceAll(", $", "");
            Pattern row = Pattern.compile("^\\| `" + m.getName() + "\\(" + parameters + "\\)` \\|", Pattern.MULTILINE);
            if (!row.matcher(readme).find()) {
                faults.add("the table has no row for " + m);
            }
            if (!example.contains("names." + m.getName() + "(")) {
                faults.add("the example does not show " + m);
            }
            held += 2;
        }
    }

    private static void tellsOfEveryTest(String readme) throws IOException {
        try (var files = Files.newDirectoryStream(Path.of("src/test/java"), "*.java")) {
            for (Path file : files) {
                held++;
                if (!readme.contains(file.toString())) {
                    faults.add("it does not tell of " + file);
                }
            }
        }
    }

    public static void main(String[] args) throws Exception {
        String readme = Files.readString(Path.of("README.md"));
        run(program(example(readme)));
        tellsOfEveryCall(readme);
        tellsOfEveryTest(readme);
        for (String fault : faults) {
            System.out.println("README.md: " + fault);
        }
        System.out.println(held + " held against README.md, " + faults.size() + " failed");
        if (!faults.isEmpty()) {
            System.exit(1);
        }
    }
}
