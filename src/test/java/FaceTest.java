import java.lang.reflect.Constructor;
import java.lang.reflect.Field;
import java.lang.reflect.Method;
import java.lang.reflect.Modifier;
import java.util.Set;
import java.util.TreeSet;

/** The face is the document's and nothing more; and some rules of LANGUAGE.md that reflection can see. */
public final class FaceTest {
    private static final Check check = new Check("FaceTest");

    private static final String[] FACE = {
        "int step(char, int) IllegalArgumentException IllegalStateException",
        "int wipe()",
        "int number(int, boolean) IllegalArgumentException IllegalStateException",
        "int clear()",
        "int kata(int) IllegalArgumentException IllegalStateException",
        "int test(int) IndexOutOfBoundsException IllegalStateException",
        "int fix(int, int) IndexOutOfBoundsException",
        "int tests(int) IndexOutOfBoundsException",
        "char run(int, int) IndexOutOfBoundsException UnsupportedOperationException",
        "int done() NoSuchElementException",
        "int outputs() NoSuchElementException",
        "int output(int) NoSuchElementException",
        "int depth() NoSuchElementException",
        "int member() IllegalStateException",
        "int submit(int, int) IndexOutOfBoundsException UnsupportedOperationException IllegalStateException",
        "int works()",
        "int of(int, char) IndexOutOfBoundsException IllegalArgumentException",
        "char state(int) IndexOutOfBoundsException",
        "long sum(int) IndexOutOfBoundsException",
        "int steps(int, int) IndexOutOfBoundsException NoSuchElementException",
        "boolean hasBody(int) IndexOutOfBoundsException",
        "char letter(int, int) IndexOutOfBoundsException NoSuchElementException",
        "int drop(int) IndexOutOfBoundsException UnsupportedOperationException",
        "int capacity(int) IllegalArgumentException",
        "int bodies()",
        "int read(int, int) IndexOutOfBoundsException NoSuchElementException",
        "int copy(int, int) IndexOutOfBoundsException NoSuchElementException",
        "int vote(int, int, int) IndexOutOfBoundsException IllegalArgumentException UnsupportedOperationException",
        "long style(int, boolean) IndexOutOfBoundsException",
        "int review(int) IndexOutOfBoundsException NoSuchElementException",
        "int best(int, int) IndexOutOfBoundsException NoSuchElementException",
        "float points(int) IndexOutOfBoundsException",
        "int belt(int) IndexOutOfBoundsException",
        "int honour(int) IndexOutOfBoundsException",
        "int ranked(int) NoSuchElementException",
        "int challenge(int, int) IndexOutOfBoundsException UnsupportedOperationException IllegalStateException",
        "char give(int, int) IndexOutOfBoundsException UnsupportedOperationException NoSuchElementException",
        "char answer(int, int) IndexOutOfBoundsException UnsupportedOperationException",
        "int open(int) NoSuchElementException",
        "int left(int) IndexOutOfBoundsException UnsupportedOperationException",
        "int days(int) IllegalArgumentException",
        "long checksum()",
        "float standingShare() ArithmeticException",
        "double meanSteps(int) IndexOutOfBoundsException ArithmeticException",
        "boolean isSound()",
    };

    public static void main(String[] args) {
        Class<?> face = Katacode.class;
        check.same("public and final", Modifier.toString(face.getModifiers()), "public final");
        check.same("no package", face.getPackageName(), "");
        Set<String> due = new TreeSet<>(Set.of(FACE));
        Set<String> got = new TreeSet<>();
        Set<String> publicNames = new TreeSet<>();
        for (Method method : face.getDeclaredMethods()) {
            if (!Modifier.isPrivate(method.getModifiers())) {
                check.same("modifiers of " + method, Modifier.toString(method.getModifiers()), "public");
                got.add(told(method));
                publicNames.add(method.getName());
            }
        }
        check.same("the methods", got, due);
        for (Constructor<?> constructor : face.getDeclaredConstructors()) {
            check.same("the constructor", constructor.toString(), "public Katacode()");
        }
        looksInside(face, publicNames);
        check.same("classes at most", face.getDeclaredClasses().length + 1 <= 12, true);
        for (Class<?> inside : face.getDeclaredClasses()) {
            check.same(inside + " is static", Modifier.isStatic(inside.getModifiers()), true);
            check.same(inside + " is not public", Modifier.isPublic(inside.getModifiers()), false);
            looksInside(inside, publicNames);
        }
        check.finish();
    }

    private static void looksInside(Class<?> one, Set<String> publicNames) {
        int fields = 0;
        for (Field field : one.getDeclaredFields()) {
            boolean isStatic = Modifier.isStatic(field.getModifiers());
            fields += isStatic ? 0 : 1;
            if (isStatic) {
                check.same(field + " is final", Modifier.isFinal(field.getModifiers()), true);
            }
            if (one == Katacode.class) {
                check.same(field + " is private", Modifier.isPrivate(field.getModifiers()), true);
            }
        }
        check.same("fields of " + one + " at most 20", fields <= 20, true);
        for (Method method : one.getDeclaredMethods()) {
            boolean isFace = one == Katacode.class && Modifier.isPublic(method.getModifiers());
            check.same(method + " bears no public name", !isFace && publicNames.contains(method.getName()), false);
            check.same("parameters of " + method + " at most 7", method.getParameterCount() <= 7, true);
        }
    }

    private static String told(Method method) {
        StringBuilder told = new StringBuilder(method.getReturnType() + " " + method.getName() + "(");
        for (int i = 0; i < method.getParameterCount(); i++) {
            told.append(i == 0 ? "" : ", ").append(method.getParameterTypes()[i]);
        }
        told.append(")");
        for (Class<?> thrown : method.getExceptionTypes()) {
            told.append(" ").append(thrown.getSimpleName());
        }
        return told.toString();
    }
}
