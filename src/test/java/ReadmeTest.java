import java.io.File;
import java.io.IOException;
import java.lang.reflect.Method;
import java.lang.reflect.Modifier;
import java.net.URL;
import java.net.URLClassLoader;
import java.nio.file.Files;
import java.nio.file.Path;
import java.util.ArrayList;
import java.util.List;
import java.util.regex.Matcher;
import java.util.regex.Pattern;
import javax.tools.ToolProvider;

/** That the examples of README.md compile, and that each call of theirs answers what stands behind it. */
public final class ReadmeTest {
    private static final Check CHECK = new Check("ReadmeTest");
    private static final String FIRST_LINE = "BusSilences bus = new BusSilences();";
    private static final Pattern EXAMPLE = Pattern.compile("```java\n(.*?)```", Pattern.DOTALL);
    /** A call, perhaps with a name for its answer, and behind it the answer, perhaps with words. */
    private static final Pattern LINE = Pattern.compile("(?:int (\\w+) = )?(bus\\.\\w+\\([^;]*\\)); +// (-?\\d+)(?:: .+)?");

    public static void main(String[] args) throws IOException, ReflectiveOperationException {
        String readme = Files.readString(Path.of("README.md"));
        Matcher example = EXAMPLE.matcher(readme);
        int examples = 0;
        while (example.find()) {
            examples++;
            answersStandBehindTheCalls(example.group(1).split("\n"));
        }
        holds("there are examples", examples > 0);
        everyCallIsNamed(readme);
        everyTestIsNamed(readme);
        CHECK.end();
    }

    private static void holds(String what, boolean held) {
        CHECK.due(what, held ? 1 : 0, 1);
    }

    private static void answersStandBehindTheCalls(String[] lines) throws IOException, ReflectiveOperationException {
        List<String> calls = new ArrayList<>();
        List<Integer> due = new ArrayList<>();
        StringBuilder code = new StringBuilder("public class Example {\n    public static java.util.List<Integer> answers() {\n")
            .append("        java.util.List<Integer> answers = new java.util.ArrayList<>();\n        " + FIRST_LINE + "\n");
        holds("an object is made first", lines[0].equals(FIRST_LINE));
        for (int at = 1; at < lines.length; at++) {
            Matcher line = LINE.matcher(lines[at]);
            holds("a call and its answer: " + lines[at], line.matches());
            if (!line.matches()) continue;
            String name = line.group(1) == null ? "answer" + at : line.group(1);
            code.append("        int ").append(name).append(" = ").append(line.group(2)).append(";\n");
            code.append("        answers.add(").append(name).append(");\n");
            calls.add(line.group(2));
            due.add(Integer.parseInt(line.group(3)));
        }
        List<?> answers = answersOf(code.append("        return answers;\n    }\n}\n").toString());
        for (int call = 0; call < answers.size(); call++) CHECK.due(calls.get(call), (Integer) answers.get(call), due.get(call));
    }

    private static List<?> answersOf(String source) throws IOException, ReflectiveOperationException {
        Path folder = Files.createTempDirectory("readme");
        Path file = folder.resolve("Example.java");
        Files.writeString(file, source);
        int refused = ToolProvider.getSystemJavaCompiler().run(null, null, null, "-cp", System.getProperty("java.class.path"), file.toString());
        holds("an example compiles", refused == 0);
        try (URLClassLoader classes = new URLClassLoader(new URL[] {folder.toUri().toURL()})) {
            return refused == 0 ? (List<?>) classes.loadClass("Example").getMethod("answers").invoke(null) : List.of();
        } finally {
            for (File left : folder.toFile().listFiles()) left.delete();
            Files.delete(folder);
        }
    }

    private static void everyCallIsNamed(String readme) {
        for (Method call : BusSilences.class.getDeclaredMethods()) {
            if (!Modifier.isPublic(call.getModifiers())) continue;
            holds("README.md names " + call.getName(), readme.contains("`" + call.getName() + "`"));
        }
    }

    private static void everyTestIsNamed(String readme) {
        for (String file : new File("src/test/java").list()) {
            if (file.endsWith("Test.java")) holds("README.md names " + file, readme.contains("| `" + file.replace(".java", "") + "` |"));
        }
    }
}
