import java.io.IOException;
import java.lang.reflect.Field;
import java.lang.reflect.Method;
import java.lang.reflect.Modifier;
import java.nio.file.Files;
import java.nio.file.Path;
import java.util.Set;
import java.util.TreeSet;

/** What can be seen of ../shared/LANGUAGE.md from outside; .ci/run starts in the checkout's folder. */
final class LanguageTests extends Promises {
    private static final String[] NOT_ALLOWED = {"->", "::", "finally", "synchronized", "assert ", "Exact(", "Math.sqrt",
        "System.out", "catch", "@Override", "package ", "Integer.MAX", "Long.MAX", ".equals(", "String.", "\" +", "+ \""};

    LanguageTests(Check check) {
        super(check);
    }

    @Override
    void run() {
        begin("LANGUAGE.md");
        String text = sourceText();
        for (String word : NOT_ALLOWED) {
            due("the source has " + word, () -> text.contains(word), false);
        }
        due("public members", () -> publicMembers(Seasonbook.class), 41);
        due("private methods with a public one's name", () -> namesTwice(), "[]");
        due("fields of all classes are private or constants", () -> openFields(), "[]");
        due("at most twelve classes", () -> Seasonbook.class.getDeclaredClasses().length < 12, true);
        due("long methods", () -> longMethods(text), "[]");
    }

    private static String sourceText() {
        try {
            return Files.readString(Path.of("src/main/java/Seasonbook.java"));
        } catch (IOException unread) {
            throw new Error(unread);
        }
    }

    private static int publicMembers(Class<?> type) {
        int members = type.getConstructors().length;
        for (Method method : type.getDeclaredMethods()) {
            members += Modifier.isPublic(method.getModifiers()) ? 1 : 0;
        }
        return members;
    }

    private static String namesTwice() {
        Set<String> open = new TreeSet<>();
        Set<String> twice = new TreeSet<>();
        for (Method method : Seasonbook.class.getDeclaredMethods()) {
            if (Modifier.isPublic(method.getModifiers())) {
                open.add(method.getName());
            }
        }
        collectTwice(Seasonbook.class, open, twice);
        for (Class<?> inside : Seasonbook.class.getDeclaredClasses()) {
            collectTwice(inside, open, twice);
        }
        return twice.toString();
    }

    private static void collectTwice(Class<?> type, Set<String> open, Set<String> twice) {
        for (Method method : type.getDeclaredMethods()) {
            if (!Modifier.isPublic(method.getModifiers()) && open.contains(method.getName())) {
                twice.add(method.getName());
            }
        }
    }

    private static String openFields() {
        Set<String> found = new TreeSet<>();
        for (Field field : Seasonbook.class.getDeclaredFields()) {
            if (!Modifier.isPrivate(field.getModifiers())) {
                found.add(field.getName());
            }
        }
        for (Class<?> inside : Seasonbook.class.getDeclaredClasses()) {
            for (Field field : inside.getDeclaredFields()) {
                if (Modifier.isStatic(field.getModifiers()) && !Modifier.isFinal(field.getModifiers())) {
                    found.add(field.getName());
                }
            }
        }
        return found.toString();
    }

    /** A method begins and ends on a line with a brace, four or eight places in. */
    private static String longMethods(String text) {
        Set<Integer> found = new TreeSet<>();
        String[] lines = text.split("\n");
        int begun = 0;
        for (int line = 0; line < lines.length; line++) {
            if (lines[line].matches("( {4}| {8})\\S.*\\{")) {
                begun = line;
            }
            if (lines[line].matches("( {4}| {8})\\}") && line - begun > 60 && !lines[begun].contains("class")) {
                found.add(begun + 1);
            }
        }
        return found.toString();
    }
}
