import java.io.IOException;
import java.nio.file.Files;
import java.nio.file.Path;
import java.util.HashMap;
import java.util.LinkedHashMap;
import java.util.Map;

/** That SENTENCES.md quotes the document from its first word to its last, and names tests that there are and that are run. */
public final class SentencesTest {
    private static final Check CHECK = new Check("SentencesTest");
    private static final Path TESTS = Path.of("src", "test");
    private static final Map<String, String> SOURCES = new HashMap<>();

    public static void main(String[] args) throws IOException {
        Map<String, String> document = byHeading(Files.readString(Path.of("..", "shared", "DOC.md")));
        Map<String, String> list = byHeading(Files.readString(TESTS.resolve("SENTENCES.md")));
        for (String heading : document.keySet()) {
            holds("SENTENCES.md has the heading " + heading, list.containsKey(heading));
            everyWordIsQuoted(heading, document.get(heading), list.getOrDefault(heading, ""));
        }
        holds("the document has headings", !document.isEmpty());
        CHECK.end();
    }

    private static void holds(String what, boolean held) {
        CHECK.due(what, held ? 1 : 0, 1);
    }

    /** What stands below each line that begins with "#". */
    private static Map<String, String> byHeading(String text) {
        Map<String, String> parts = new LinkedHashMap<>();
        String heading = "";
        for (String line : text.split("\n")) {
            if (line.startsWith("#")) heading = line;
            String body = parts.getOrDefault(heading, "");
            parts.put(heading, line.startsWith("#") ? body : body + line + "\n");
        }
        parts.remove("");
        return parts;
    }

    private static void everyWordIsQuoted(String heading, String text, String list) throws IOException {
        String rest = text.replaceAll("(?m)^```\\w*$", "");
        String[] parts = list.split("\n\n");
        for (int part = 0; part < parts.length; part++) {
            if (!parts[part].strip().startsWith(">")) continue;
            String sentence = parts[part].strip().replaceAll("(?m)^> ", "");
            int from = rest.indexOf(sentence);
            holds(heading + " says: " + sentence, from >= 0);
            if (from < 0) continue;
            holds(heading + ", no word is left ahead of: " + sentence, wordless(rest.substring(0, from)));
            rest = rest.substring(from + sentence.length());
            String tests = part + 1 < parts.length ? parts[part + 1].strip() : "";
            holds(heading + ", there is a test of: " + sentence, tests.startsWith("- "));
            if (tests.startsWith("- ") && !tests.startsWith("- no test: ")) lookForTests(tests);
        }
        holds(heading + ", nothing is left: " + rest.strip(), wordless(rest));
    }

    private static boolean wordless(String text) {
        return text.chars().noneMatch(Character::isLetterOrDigit);
    }

    /** Reads rows of the form "- TestClass: aMethod, anotherMethod". */
    private static void lookForTests(String rows) throws IOException {
        for (String row : rows.substring(2).split("\n- ")) {
            String[] sides = row.split(":");
            String source = sourceOf(sides[0]);
            for (String method : sides[1].strip().split(",\\s+")) {
                holds(sides[0] + " has " + method, source.matches("(?s).*private (static )?void " + method + "\\(.*"));
                holds(sides[0] + " runs " + method, source.split("\\b" + method + "\\(", -1).length > 2);
            }
        }
    }

    private static String sourceOf(String test) throws IOException {
        if (!SOURCES.containsKey(test)) SOURCES.put(test, Files.readString(TESTS.resolve("java").resolve(test + ".java")));
        return SOURCES.get(test);
    }
}
