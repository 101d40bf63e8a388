import java.lang.reflect.Field;
import java.lang.reflect.Modifier;
import java.util.ArrayList;
import java.util.HashMap;
import java.util.List;
import java.util.Map;
import java.util.Set;

/** All that a wall holds, as a text, by looking into its fields: what a refused call must leave as it is. */
final class State {
    /** These only reckon: each call that needs them fills them anew. */
    private static final Set<String> SCRATCH = Set.of("Casting", "CallOrder");
    private static final Map<Class<?>, List<Field>> KNOWN = new HashMap<>();

    private State() {
    }

    static String of(Seasonbook wall) {
        StringBuilder text = new StringBuilder();
        tell(wall, text);
        return text.toString();
    }

    private static void tell(Object value, StringBuilder text) {
        if (value instanceof Object[]) {
            for (Object row : (Object[]) value) {
                tell(row, text);
            }
        } else if (value instanceof int[]) {
            for (int number : (int[]) value) {
                text.append(number).append(' ');
            }
        } else if (value instanceof long[]) {
            for (long number : (long[]) value) {
                text.append(number).append(' ');
            }
        } else if (value instanceof Number || value instanceof Boolean || value instanceof Character) {
            text.append(value).append(' ');
        } else if (value != null && value.getClass().isArray()) {
            throw new Error("an array of another kind: " + value.getClass());
        } else if (value != null) {
            tellFields(value, text);
        }
    }

    private static void tellFields(Object row, StringBuilder text) {
        try {
            for (Field field : KNOWN.computeIfAbsent(row.getClass(), State::fieldsOf)) {
                tell(field.get(row), text);
            }
            text.append('\n');
        } catch (IllegalAccessException closed) {
            throw new Error(closed);
        }
    }

    private static List<Field> fieldsOf(Class<?> type) {
        List<Field> fields = new ArrayList<>();
        for (Field field : type.getDeclaredFields()) {
            if (!Modifier.isStatic(field.getModifiers()) && !SCRATCH.contains(field.getType().getSimpleName())) {
                field.setAccessible(true);
                fields.add(field);
            }
        }
        return fields;
    }
}
