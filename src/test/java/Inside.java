import java.lang.reflect.Array;
import java.lang.reflect.Field;
import java.lang.reflect.Modifier;
import java.util.List;

/** Looks into the shop's own rows. */
final class Inside {
    private Inside() {
    }

    static Object of(Object owner, String name) {
        try {
            Field field = owner.getClass().getDeclaredField(name);
            field.setAccessible(true);
            return field.get(owner);
        } catch (ReflectiveOperationException e) {
            throw new IllegalStateException("no field " + name, e);
        }
    }

    static void add(Object row, int index, int by) {
        if (row instanceof char[] signs) {
            signs[index] += (char) by;
        } else {
            Array.setInt(row, index, Array.getInt(row, index) + by);
        }
    }

    /** All that an object holds, its fields' names with their values: two moments are alike if these texts are. */
    static String state(Object object) {
        StringBuilder text = new StringBuilder();
        tell(text, object);
        return text.toString();
    }

    private static void tell(StringBuilder text, Object value) {
        if (value == null || value instanceof Number || value instanceof Boolean) {
            text.append(value);
        } else if (value instanceof Character sign) {
            text.append((int) sign);
        } else if (value.getClass().isArray()) {
            for (int i = 0; i < Array.getLength(value); i++) {
                tell(text.append(i == 0 ? "" : " "), Array.get(value, i));
            }
        } else if (value instanceof List<?> list) {
            for (Object part : list) {
                tell(text.append('['), part);
                text.append(']');
            }
        } else {
            tellFields(text, value);
        }
    }

    private static void tellFields(StringBuilder text, Object owner) {
        for (Field field : owner.getClass().getDeclaredFields()) {
            if (!Modifier.isStatic(field.getModifiers())) {
                tell(text.append('\n').append(field.getName()).append(": "), of(owner, field.getName()));
            }
        }
    }
}
