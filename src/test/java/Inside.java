import java.lang.reflect.Array;
import java.lang.reflect.Field;

/** Looks into the shop's own rows. */
final class Inside {
    private Inside() {
    }

    static Object of(Object owner, String name) {
        try {
            Field field = owner.getClass().getDeclaredField(name);
            field.setAccessible(true);
            return field.get(owner);
        } catch (ReflectiveOperationException e) {
            throw new IllegalStateException("no field " + name, e);
        }
    }

    static void add(Object row, int index, int by) {
        if (row instanceof char[] signs) {
            signs[index] += (char) by;
        } else {
            Array.setInt(row, index, Array.getInt(row, index) + by);
        }
    }
}
