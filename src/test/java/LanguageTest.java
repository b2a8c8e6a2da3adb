import java.io.IOException;
import java.lang.reflect.Constructor;
import java.lang.reflect.Field;
import java.lang.reflect.Method;
import java.lang.reflect.Modifier;
import java.nio.file.Files;
import java.nio.file.Path;
import java.util.Arrays;
import java.util.Set;
import java.util.TreeSet;
import java.util.regex.Matcher;
import java.util.regex.Pattern;

/** The face of the class, and those rules of LANGUAGE.md that can be seen without reading it closely. */
public final class LanguageTest {
    private static final Check CHECK = new Check("LanguageTest");
    private static final Path SOURCE = Path.of("src", "main", "java", "BusSilences.java");
    private static final String[] FACE = {
        "set(int,int)", "station(int)", "word(int,int,int)", "forget(int)", "stick(int)", "doze(int)", "pass(int)", "ofWire(int,int)",
        "of(int,int)", "row(int,int,int)", "heard(int,int,int)", "count(int)", "why(int)", "endsIn(int,int)", "quietIn()",
        "bestRest(int,int)", "busiest()", "sleepsIn(int)", "put(long)", "wipe()", "fault()", "carryOut()", "undo()", "save(int)",
        "restore(int)",
    };
    private static final String[] CONSTANTS = {"NO_SUCH=-1", "BAD_VALUE=-2", "BAD_TEXT=-3", "TOO_MANY=-4", "NOT_POSSIBLE=-5", "NONE=-6",
        "REST=0", "FULL=1", "LOAD=2", "FEED=3", "TRIES=4"};

    public static void main(String[] args) throws IOException, IllegalAccessException {
        theFaceIsTheDocuments();
        theConstantsAreTheDocuments();
        nothingElseIsSeen();
        classesInsideAreStatic();
        String code = withoutCommentsAndTexts(Files.readString(SOURCE));
        noForbiddenWord(code);
        methodsAreShort(code);
        CHECK.end();
    }

    private static void holds(String what, boolean held) {
        CHECK.due(what, held ? 1 : 0, 1);
    }

    private static void theFaceIsTheDocuments() {
        Set<String> found = new TreeSet<>();
        for (Method method : BusSilences.class.getDeclaredMethods()) {
            if (!Modifier.isPublic(method.getModifiers())) continue;
            StringBuilder types = new StringBuilder();
            for (Class<?> type : method.getParameterTypes()) types.append(types.length() == 0 ? "" : ",").append(type.getName());
            found.add(method.getName() + "(" + types + ")");
            holds(method + " answers an int", method.getReturnType() == int.class && !Modifier.isStatic(method.getModifiers()));
        }
        holds("the methods are the document's: " + found, found.equals(new TreeSet<>(Arrays.asList(FACE))));
        Constructor<?>[] made = BusSilences.class.getDeclaredConstructors();
        holds("one public constructor", made.length == 1 && Modifier.isPublic(made[0].getModifiers()) && made[0].getParameterCount() == 0);
        int modifiers = BusSilences.class.getModifiers();
        holds("public and final", Modifier.isPublic(modifiers) && Modifier.isFinal(modifiers));
    }

    private static void theConstantsAreTheDocuments() throws IllegalAccessException {
        Set<String> found = new TreeSet<>();
        for (Field field : BusSilences.class.getFields()) {
            int modifiers = field.getModifiers();
            holds(field + " is a constant", Modifier.isStatic(modifiers) && Modifier.isFinal(modifiers));
            found.add(field.getName() + "=" + field.getInt(null));
        }
        holds("the constants are the document's: " + found, found.equals(new TreeSet<>(Arrays.asList(CONSTANTS))));
    }

    private static void nothingElseIsSeen() {
        for (Field field : BusSilences.class.getDeclaredFields()) holds(field + " is public or private", isPublicOrPrivate(field.getModifiers()));
        Set<String> names = new TreeSet<>();
        for (String method : FACE) names.add(method.substring(0, method.indexOf('(')));
        for (Method method : BusSilences.class.getDeclaredMethods()) {
            holds(method + " is public or private", isPublicOrPrivate(method.getModifiers()));
            if (!Modifier.isPrivate(method.getModifiers())) continue;
            holds(method + " has a name of its own", !names.contains(method.getName()));
        }
        for (Class<?> inside : BusSilences.class.getDeclaredClasses()) {
            for (Method method : inside.getDeclaredMethods()) {
                if (!Modifier.isPrivate(method.getModifiers())) continue;
                holds(method + " has a name of its own", !names.contains(method.getName()));
            }
        }
    }

    private static boolean isPublicOrPrivate(int modifiers) {
        return Modifier.isPublic(modifiers) || Modifier.isPrivate(modifiers);
    }

    private static void classesInsideAreStatic() {
        Class<?>[] classes = BusSilences.class.getDeclaredClasses();
        holds("at most twelve classes", classes.length < 12);
        for (Class<?> inside : classes) {
            int modifiers = inside.getModifiers();
            holds(inside + " is static", Modifier.isStatic(modifiers));
            holds(inside + " is not seen outside", !Modifier.isPublic(modifiers) && !Modifier.isProtected(modifiers));
            long fields = Arrays.stream(inside.getDeclaredFields()).filter(field -> !Modifier.isStatic(field.getModifiers())).count();
            holds(inside + " has at most twenty fields", fields <= 20);
        }
    }

    private static String withoutCommentsAndTexts(String source) {
        return source.replaceAll("(?s)/\\*.*?\\*/", "").replaceAll("//[^\n]*", "").replaceAll("\"[^\"\n]*\"", "\"\"")
            .replaceAll("'[^'\n]'", "' '");
    }

    private static void noForbiddenWord(String code) {
        String[] forbidden = {"throw", "throws", "try", "catch", "synchronized", "assert", "package", "Exception", "Object", "Thread",
            "import (?!java\\.util\\.(ArrayList|List|Arrays|Iterator);)", "System\\.(?!arraycopy\\b)\\w+", "\\w+Exact\\b", "hashCode",
            "(?m)^(?!\\s*(case|default)\\b).*->", "::", "volatile", "native"};
        for (String word : forbidden) {
            String whole = Character.isLetter(word.charAt(0)) && !word.contains("\\") ? "\\b" + word + "\\b" : word;
            holds("no " + word, !Pattern.compile(whole).matcher(code).find());
        }
        holds("plain signs", code.chars().allMatch(sign -> sign < 127));
    }

    private static void methodsAreShort(String code) {
        Matcher opened = Pattern.compile("(?m)^( +)[\\w\\[\\] ]+\\([^;{]*\\) \\{\n").matcher(code);
        int methods = 0;
        while (opened.find()) {
            int end = code.indexOf("\n" + opened.group(1) + "}", opened.end() - 1);
            long lines = code.substring(opened.start(), Math.max(opened.start(), end)).lines().count();
            holds("at most sixty lines from " + opened.group().trim(), end > 0 && lines <= 60);
            methods++;
        }
        holds("methods were found", methods >= FACE.length);
    }
}
