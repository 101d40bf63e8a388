import java.io.IOException;
import java.lang.reflect.Constructor;
import java.lang.reflect.Executable;
import java.lang.reflect.Method;
import java.lang.reflect.Modifier;
import java.nio.file.Files;
import java.nio.file.Path;
import java.util.ArrayList;
import java.util.List;
import java.util.Set;
import java.util.TreeSet;

/** Holds 'The public face' of ../shared/DOC.md against the class: each line of it is there, and nothing beside it. */
final class FaceTests extends Promises {
    private static final Path DOCUMENT = Path.of("../shared/DOC.md");

    FaceTests(Check check) {
        super(check);
    }

    @Override
    void run() {
        begin("The public face");
        due("classes inside that are public, protected or not static", () -> openClasses(), "[]");
        if (!Files.exists(DOCUMENT)) {
            System.out.println("DOC.md is not there: the public face was not looked at");
            return;
        }
        List<String> face = faceLines();
        due("the class line", () -> face.get(0), "public final class Seasonbook {");
        due("the class is public and final", () -> Modifier.toString(Seasonbook.class.getModifiers()), "public final");
        due("members beside the face, or of it that are missing", () -> difference(told(face), members()), "[]");
        String source = inOneLine(read(Path.of("src/main/java/Seasonbook.java")));
        for (String line : face.subList(1, face.size())) {
            due("the source declares " + line, () -> source.contains(line.replace(";", " {")), true);
        }
    }

    /** From the class line up to the last member. */
    private static List<String> faceLines() {
        String text = read(DOCUMENT);
        int begin = text.indexOf("public final class");
        int end = text.indexOf("}", begin);
        List<String> lines = new ArrayList<>();
        for (String line : text.substring(begin, end).split("\n")) {
            if (!line.isBlank()) {
                lines.add(line.strip());
            }
        }
        return lines;
    }

    /** Each member without the names of its arguments, as members() tells it. */
    private static Set<String> told(List<String> face) {
        Set<String> told = new TreeSet<>();
        for (String line : face.subList(1, face.size())) {
            told.add(line.replace(";", "").replaceAll("(boolean|char|int|long) \\w+([,)])", "$1$2"));
        }
        return told;
    }

    private static Set<String> members() {
        Set<String> members = new TreeSet<>();
        for (Constructor<?> made : Seasonbook.class.getDeclaredConstructors()) {
            addOpen(made, "Seasonbook", members);
        }
        for (Method method : Seasonbook.class.getDeclaredMethods()) {
            addOpen(method, method.getReturnType() + " " + method.getName(), members);
        }
        return members;
    }

    private static void addOpen(Executable member, String name, Set<String> members) {
        if (!Modifier.isPrivate(member.getModifiers()) && !member.isSynthetic()) {
            String thrown = names(member.getExceptionTypes());
            members.add(Modifier.toString(member.getModifiers()) + " " + name + "(" + names(member.getParameterTypes())
                    + ")" + (thrown.isEmpty() ? "" : " throws " + thrown));
        }
    }

    private static String names(Class<?>[] types) {
        List<String> names = new ArrayList<>();
        for (Class<?> type : types) {
            names.add(type.getSimpleName());
        }
        return String.join(", ", names);
    }

    private static String difference(Set<String> one, Set<String> other) {
        Set<String> all = new TreeSet<>(one);
        all.addAll(other);
        all.removeIf(member -> one.contains(member) && other.contains(member));
        return all.toString();
    }

    private static String openClasses() {
        Set<String> found = new TreeSet<>();
        for (Class<?> inside : Seasonbook.class.getDeclaredClasses()) {
            int modifiers = inside.getModifiers();
            if (Modifier.isPublic(modifiers) || Modifier.isProtected(modifiers) || !Modifier.isStatic(modifiers)) {
                found.add(inside.getSimpleName());
            }
        }
        return found.toString();
    }

    private static String inOneLine(String text) {
        return text.replaceAll("\\s+", " ");
    }

    private static String read(Path file) {
        try {
            return Files.readString(file);
        } catch (IOException unread) {
            throw new Error(unread);
        }
    }
}
