import java.util.Objects;

/** Counts the answers that are not due; a test ends by finish(). */
final class Check {
    private final String name;
    private int wrong = 0;
    private int seen = 0;

    Check(String name) {
        this.name = name;
    }

    void same(String what, Object got, Object due) {
        seen++;
        if (!Objects.equals(got, due)) {
            wrong++;
            System.out.println(name + ": " + what + " answered " + got + ", due is " + due);
        }
    }

    /** The very class is asked for, so that an exception of the machine's own is told from the document's. */
    void refuses(String what, Class<? extends RuntimeException> due, Runnable call) {
        Class<?> got = null;
        try {
            call.run();
        } catch (RuntimeException e) {
            got = e.getClass();
        }
        same(what + " throws", got, due);
    }

    void finish() {
        System.out.println(name + ": " + seen + " answers, " + wrong + " wrong");
        if (wrong != 0) {
            System.exit(1);
        }
    }
}
