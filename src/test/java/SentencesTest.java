import java.io.IOException;
import java.nio.file.Files;
import java.nio.file.Path;
import java.util.HashMap;
import java.util.Map;

/** That SENTENCES.md quotes the document, and names tests that there are and that are run. */
public final class SentencesTest {
    private static final Check CHECK = new Check("SentencesTest");
    private static final Path TESTS = Path.of("src", "test");
    private static final Map<String, String> SOURCES = new HashMap<>();

    public static void main(String[] args) throws IOException {
        String document = Files.readString(Path.of("..", "shared", "DOC.md"));
        String[] parts = Files.readString(TESTS.resolve("SENTENCES.md")).split("\n\n");
        int sentences = 0;
        for (int part = 0; part < parts.length; part++) {
            if (!parts[part].startsWith("> ")) continue;
            String sentence = parts[part].substring(2);
            holds("the document says: " + sentence, document.contains(sentence));
            boolean listed = part + 1 < parts.length && parts[part + 1].startsWith("- ");
            holds("it has a test: " + sentence, listed);
            if (listed) lookForTests(parts[part + 1]);
            sentences++;
        }
        holds("sentences were found", sentences > 0);
        CHECK.end();
    }

    private static void holds(String what, boolean held) {
        CHECK.due(what, held ? 1 : 0, 1);
    }

    /** Reads rows of the form "- TestClass: aMethod, anotherMethod". */
    private static void lookForTests(String rows) throws IOException {
        for (String row : rows.strip().substring(2).split("\n- ")) {
            String[] sides = row.split(":");
            String source = sourceOf(sides[0]);
            for (String method : sides[1].strip().split(",\\s+")) {
                holds(sides[0] + " has " + method, source.contains("private static void " + method + "("));
                holds(sides[0] + " runs " + method, source.split("\\b" + method + "\\(", -1).length > 2);
            }
        }
    }

    private static String sourceOf(String test) throws IOException {
        if (!SOURCES.containsKey(test)) SOURCES.put(test, Files.readString(TESTS.resolve("java").resolve(test + ".java")));
        return SOURCES.get(test);
    }
}
