/** Short ways to bring an object to where a test begins. */
final class Dojo {
    static final Class<IllegalArgumentException> ARGUMENT = IllegalArgumentException.class;
    static final Class<IllegalStateException> STATE = IllegalStateException.class;
    static final Class<IndexOutOfBoundsException> INDEX = IndexOutOfBoundsException.class;
    static final Class<UnsupportedOperationException> UNSUPPORTED = UnsupportedOperationException.class;
    static final Class<java.util.NoSuchElementException> NO_ELEMENT = java.util.NoSuchElementException.class;
    static final Class<ArithmeticException> ARITHMETIC = ArithmeticException.class;

    static final int[] NO_NUMBERS = {};

    private Dojo() {
    }

    /** Types a program anew: "i n5 + o". */
    static void type(Katacode x, String program) {
        x.wipe();
        for (String word : program.split(" ")) {
            if (!word.isEmpty()) {
                x.step(word.charAt(0), word.length() > 1 ? Integer.parseInt(word.substring(1)) : 0);
            }
        }
    }

    static void numbers(Katacode x, int[] input, int[] expected) {
        x.clear();
        for (int number : input) {
            x.number(number, false);
        }
        for (int number : expected) {
            x.number(number, true);
        }
    }

    static int[] row(int... numbers) {
        return numbers;
    }

    static int test(Katacode x, int kata, int[] input, int[] expected) {
        numbers(x, input, expected);
        return x.test(kata);
    }

    static int fix(Katacode x, int kata, int test, int[] input, int[] expected) {
        numbers(x, input, expected);
        return x.fix(kata, test);
    }

    static int submit(Katacode x, int member, int kata, String program) {
        type(x, program);
        return x.submit(member, kata);
    }

    static char run(Katacode x, int kata, int test, String program) {
        type(x, program);
        return x.run(kata, test);
    }

    static void members(Katacode x, int count) {
        for (int i = 0; i < count; i++) {
            x.member();
        }
    }

    /** A dojo with some members and katas, each kata of a level with one test that asks for the input doubled. */
    static Katacode doubling(int members, int... levels) {
        Katacode x = new Katacode();
        members(x, members);
        for (int level : levels) {
            test(x, x.kata(level), row(3), row(6));
        }
        return x;
    }

    static final String DOUBLE = "i d + o";
    static final String DOUBLE_BY_TWO = "i n2 * o";
    static final String SIX = "n6 o";
}
