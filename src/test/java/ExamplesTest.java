import java.util.regex.Matcher;
import java.util.regex.Pattern;

/** The three example runs that end 'Terms', in the document's own words. */
public final class ExamplesTest {
    private static final Check check = new Check("ExamplesTest");
    private static final Pattern CALL = Pattern.compile("(\\w+)\\(([^)]*)\\) (=|throws) (.+)");

    private static final String SOLVED = """
        kata(2) = 0; number(3, false) = 1; number(6, true) = 1;
        test(0) = 0; member() = 0; member() = 1; member() = 2; step('i', 0) = 1; step('d', 0) = 2; step('+', 0) = 3;
        step('o', 0) = 4; run(0, 0) = 'o'; done() = 4; outputs() = 1; output(0) = 6; depth() = 0; submit(0, 0) = 0;
        sum(0) = 17390836317706; steps(0, 0) = 4; state(0) = 's'; vote(1, 0, 5) = 1; vote(2, 0, 4) = 1;
        vote(0, 0, 5) throws UnsupportedOperationException; style(0, false) = 9; style(0, true) = 2; points(0) = 9.0;
        belt(0) = 1; read(2, 0) = 1; drop(0) = 0; state(0) = 'p'; letter(0, 0) throws NoSuchElementException;
        challenge(1, 0) = 1; left(0) = 7; open(0) = 0; days(3) = 0; left(0) = 4;
        give(1, 0) throws NoSuchElementException; give(2, 0) = 's'; state(0) = 's'; honour(1) = 8; honour(2) = 13;
        ranked(0) = 0; isSound() = true.
        """;

    private static final String FALLEN = """
        kata(5) = 0; number(1, false) = 1; number(2, true) = 1;
        test(0) = 0; member() = 0; member() = 1; step('i', 0) = 1; step('d', 0) = 2; step('+', 0) = 3; step('o', 0) = 4;
        submit(0, 0) = 0; belt(0) = 1; vote(1, 0, 3) = 1; belt(0) = 1; points(0) = 15.0; drop(0) = 0; belt(0) = 1;
        number(0, false) = 1; number(1, true) = 1; test(0) = 0; state(0) = 'p';
        steps(0, 1) throws NoSuchElementException; challenge(1, 0) = 1; answer(0, 0) = 'b'; state(0) = 'b';
        honour(1) = 13; belt(0) = 0; points(0) = 0.0; wipe() = 4; step('n', 7) = 1; step('o', 0) = 2; run(0, 0) = 'w';
        submit(1, 0) = -1; meanSteps(0) = 4.0; standingShare() = 0.0; isSound() = true.
        """;

    private static final String BRACKETS = """
        kata(1) = 0; number(4, false) = 1; number(4, true) = 1;
        number(3, true) = 2; test(0) = 0; member() = 0; step('i', 0) = 1; step('o', 0) = 2; step('n', 3) = 3;
        step('o', 0) = 4; submit(0, 0) = 0; capacity(1) = 0; submit(0, 0) = 1; bodies() = 1; state(0) = 'p';
        state(1) = 's'; wipe() = 4; step('i', 0) = 1; step('[', 0) = 2; run(0, 0) throws UnsupportedOperationException;
        step('d', 0) = 3; step('n', 1) = 4; step('-', 0) = 5; step(']', 0) = 6; run(0, 0) = 'w'; done() = 18;
        depth() = 5; fix(0, 0) = 1; state(1) = 'f'; drop(1) = 0; state(1) = 'b'; review(0) throws NoSuchElementException;
        best(0, 0) = 0; checksum() = 303932597; isSound() = true.
        """;

    public static void main(String[] args) {
        follow("A kata that is solved", SOLVED, 43);
        follow("One that falls by a challenge", FALLEN, 36);
        follow("Steps in brackets", BRACKETS, 35);
        check.finish();
    }

    private static void follow(String name, String example, int calls) {
        check.words(name);
        Katacode x = new Katacode();
        String[] rows = example.strip().replaceAll("\\.$", "").split(";\\s+");
        for (String row : rows) {
            Matcher call = CALL.matcher(row);
            if (!call.matches()) {
                throw new AssertionError(row);
            }
            int[] arguments = argumentsOf(call.group(2));
            check.same(row, told(x, call.group(1), arguments), call.group(4));
        }
        check.same("how many calls", rows.length, calls);
    }

    private static int[] argumentsOf(String told) {
        int[] arguments = new int[3];
        String[] words = told.isEmpty() ? new String[0] : told.split(", ");
        for (int i = 0; i < words.length; i++) {
            String word = words[i];
            arguments[i] = word.startsWith("'") ? word.charAt(1)
                : word.equals("true") ? 1
                : word.equals("false") ? 0 : Integer.parseInt(word);
        }
        return arguments;
    }

    private static String told(Katacode x, String name, int[] arguments) {
        try {
            Object got = Caller.call(x, name, arguments[0], arguments[1], arguments[2]);
            return got instanceof Character ? "'" + got + "'" : String.valueOf(got);
        } catch (RuntimeException e) {
            return e.getClass().getSimpleName();
        }
    }
}
