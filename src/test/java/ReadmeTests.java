import java.io.IOException;
import java.lang.reflect.Method;
import java.lang.reflect.Modifier;
import java.net.URL;
import java.net.URLClassLoader;
import java.nio.file.Files;
import java.nio.file.Path;
import java.util.ArrayList;
import java.util.List;
import java.util.TreeSet;
import java.util.regex.Matcher;
import java.util.regex.Pattern;
import java.util.stream.Stream;
import javax.tools.ToolProvider;

/** What README.md says is so: its calls give the answers beside them, and the tests it names are those there are. */
public final class ReadmeTests extends Checks {
    private static final String NEW_OBJECT = "ChangeRows x = new ChangeRows();";

    /* What a line of the example declares (if anything), its call, and the answer beside it. */
    private static final Pattern CALL =
        Pattern.compile("(?:(?:int|long) (\\w+) = )?(x\\..*\\)); *// (-?\\d+|[A-Z]+)(?:[:,].*)?");

    public static void main(String[] args) throws Exception {
        about("README.md");
        List<String> readme = Files.readAllLines(Path.of("README.md"));
        List<String> example = exampleOf(readme);
        everyCallIsShown(String.join("\n", example));
        everyTestIsNamed(String.join("\n", readme));
        run(programOf(example));
        finish("what README.md says is so");
    }

    /** Public, since the example's class comes from another loader. */
    public static void answered(String call, long got, long want) {
        due(call, got, want);
    }

    /** The lines of all Java blocks, which are one run of calls. */
    private static List<String> exampleOf(List<String> readme) {
        List<String> example = new ArrayList<>();
        boolean isJava = false;
        for (String line : readme) {
            if (line.startsWith("```")) {
                isJava = line.equals("```java");
            } else if (isJava && !line.isBlank()) {
                example.add(line);
            }
        }
        return example;
    }

    private static String programOf(List<String> example) {
        StringBuilder program = new StringBuilder("public final class Example { public static void run() {\n");
        for (String line : example) {
            program.append(line.equals(NEW_OBJECT) ? line : withLook(line)).append('\n');
        }
        return program.append("} }\n").toString();
    }

    /** The line, with a look at its answer; one that shows no answer is a fault. */
    private static String withLook(String line) {
        Matcher m = CALL.matcher(line);
        if (!m.matches()) {
            due("answers of the line " + line, 0, 1);
            return "";
        }
        String name = m.group(1);
        String call = m.group(2);
        String want = Character.isLetter(m.group(3).charAt(0)) ? "ChangeRows." + m.group(3) : m.group(3) + "L";
        String look = "ReadmeTests.answered(\"" + call + "\", ";
        return name == null
            ? look + call + ", " + want + ");"
            : "var " + name + " = " + call + "; " + look + name + ", " + want + ");";
    }

    private static void run(String program) throws IOException, ReflectiveOperationException {
        Path folder = Files.createTempDirectory("readme");
        Path source = Files.writeString(folder.resolve("Example.java"), program);
        int failed = ToolProvider.getSystemJavaCompiler().run(null, null, null, "-d", folder.toString(),
            "-cp", System.getProperty("java.class.path"), source.toString());
        due("the compiler", failed, 0);
        if (failed == 0) {
            try (URLClassLoader loader = new URLClassLoader(new URL[] {folder.toUri().toURL()})) {
                loader.loadClass("Example").getMethod("run").invoke(null);
            }
            Files.delete(folder.resolve("Example.class"));
        }
        Files.delete(source);
        Files.delete(folder);
    }

    private static void everyCallIsShown(String example) {
        for (Method m : ChangeRows.class.getDeclaredMethods()) {
            if (Modifier.isPublic(m.getModifiers())) {
                due("lines that show " + m.getName(), example.contains("x." + m.getName() + "(") ? 1 : 0, 1);
            }
        }
    }

    /** The list of tests in README.md has each file there is, and no other. */
    private static void everyTestIsNamed(String readme) throws IOException {
        TreeSet<String> named = new TreeSet<>();
        Matcher m = Pattern.compile("`(\\w+Tests|Checks|Used|Twins)`").matcher(readme);
        while (m.find()) {
            named.add(m.group(1) + ".java");
        }
        TreeSet<String> there = new TreeSet<>();
        try (Stream<Path> files = Files.list(Path.of("src/test/java"))) {
            files.forEach(file -> there.add(file.getFileName().toString()));
        }
        due("tests named " + named + ", those there are " + there, named.equals(there) ? 1 : 0, 1);
    }
}
