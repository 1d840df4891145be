import java.lang.reflect.Array;
import java.lang.reflect.Field;
import java.lang.reflect.Modifier;

/** Writes down what is held in an object, but for the rows that are used anew by each run of the dojo's own. */
final class Looker {
    private Looker() {
    }

    static String lookAt(Katacode x) {
        StringBuilder told = new StringBuilder();
        write(x, told);
        return told.toString();
    }

    private static void write(Object one, StringBuilder told) {
        if (one.getClass().isArray()) {
            for (int i = 0; i < Array.getLength(one); i++) {
                write(Array.get(one, i), told);
            }
        } else if (one instanceof Number || one instanceof Character || one instanceof Boolean) {
            told.append(one).append(' ');
        } else {
            for (Field field : one.getClass().getDeclaredFields()) {
                boolean isScratch = field.getName().equals("judge") || field.getName().equals("takenRow");
                if (!Modifier.isStatic(field.getModifiers()) && !isScratch) {
                    write(valueOf(field, one), told);
                }
            }
        }
    }

    private static Object valueOf(Field field, Object holder) {
        try {
            field.setAccessible(true);
            return field.get(holder);
        } catch (IllegalAccessException e) {
            throw new AssertionError(e);
        }
    }
}
