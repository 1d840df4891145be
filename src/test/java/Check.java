import java.util.Objects;

/** Counts the answers that are not due; a test ends by finish(). */
final class Check {
    private final String name;
    private String sentence = "";
    private int wrong = 0;
    private int seen = 0;

    Check(String name) {
        this.name = name;
    }

    /** Names the words of the document by which the next answers are due. */
    void words(String words) {
        sentence = " ('" + words + "')";
    }

    void same(String what, Object got, Object due) {
        seen++;
        if (!Objects.equals(got, due)) {
            wrong++;
            System.out.println(name + ": " + what + " answered " + got + ", due is " + due + sentence);
        }
    }

    /** The very class is asked for, so that an exception of the machine's own is told from the document's. */
    void refuses(String what, Class<? extends RuntimeException> due, Runnable call) {
        Class<?> got = null;
        try {
            call.run();
        } catch (RuntimeException e) {
            got = e.getClass();
        }
        same(what + " throws", got, due);
    }

    /** Types and runs a program by a test of its own, and looks at all that is told of the run. */
    void run(String program, int[] input, int[] expected, char due, int done, int depth, int... outputs) {
        Katacode x = new Katacode();
        x.kata(1);
        Dojo.test(x, 0, input, expected);
        same("'" + program + "'", Dojo.run(x, 0, 0, program), due);
        same("done of '" + program + "'", x.done(), done);
        same("depth of '" + program + "'", x.depth(), depth);
        same("outputs of '" + program + "'", x.outputs(), outputs.length);
        for (int i = 0; i < outputs.length && i < x.outputs(); i++) {
            same("output " + i + " of '" + program + "'", x.output(i), outputs[i]);
        }
    }

    void finish() {
        System.out.println(name + ": " + seen + " answers, " + wrong + " wrong");
        if (wrong != 0) {
            System.exit(1);
        }
    }
}
