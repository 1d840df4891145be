import java.lang.reflect.Field;

/** Changes a field from outside, as no call makes an object unsound. */
final class Insides {
    private Insides() {
    }

    static Object work(Katacode x, int index) {
        return ((Object[]) get(x, "works"))[index];
    }

    static Object get(Object holder, String name) {
        try {
            return field(holder, name).get(holder);
        } catch (IllegalAccessException e) {
            throw new AssertionError(e);
        }
    }

    static void set(Object holder, String name, Object value) {
        try {
            field(holder, name).set(holder, value);
        } catch (IllegalAccessException e) {
            throw new AssertionError(e);
        }
    }

    /** The element of a row of ints. */
    static void put(Object holder, String name, int index, int value) {
        ((int[]) get(holder, name))[index] = value;
    }

    private static Field field(Object holder, String name) {
        try {
            Field field = holder.getClass().getDeclaredField(name);
            field.setAccessible(true);
            return field;
        } catch (NoSuchFieldException e) {
            throw new AssertionError(e);
        }
    }
}
