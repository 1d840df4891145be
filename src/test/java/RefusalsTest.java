/**
 * 'A method that throws an exception changes nothing': each exception of each promise, and then all that later calls
 * show, beside a like dojo where the call was not made.
 */
public final class RefusalsTest {
    private static final Check check = new Check("RefusalsTest");

    public static void main(String[] args) {
        check.words("A method that throws an exception changes nothing");
        nothingThereYet();
        numbersTyped();
        katas();
        runs();
        works();
        archive();
        votes();
        members();
        challenges();
        notWhole();
        full();
        check.finish();
    }

    private static void empty(Class<? extends RuntimeException> due, String name, int... args) {
        Twins.refuse(check, Scenes::empty, due, name, args);
    }

    private static void midway(Class<? extends RuntimeException> due, String name, int... args) {
        Twins.refuse(check, Scenes::midway, due, name, args);
    }

    private static void nothingThereYet() {
        for (String name : new String[] {"test", "fix", "tests", "run", "submit", "of", "state", "sum", "steps",
            "hasBody", "letter", "drop", "read", "copy", "vote", "style", "review", "best", "points", "belt", "honour",
            "challenge", "give", "answer", "left", "meanSteps"}) {
            empty(Dojo.INDEX, name);
        }
        for (String name : new String[] {"done", "outputs", "output", "depth", "ranked", "open"}) {
            empty(Dojo.NO_ELEMENT, name);
        }
        empty(Dojo.ARITHMETIC, "standingShare");
        empty(Dojo.ARGUMENT, "kata", 0);
        empty(Dojo.ARGUMENT, "capacity", 0);
        empty(Dojo.ARGUMENT, "days", 0);
    }

    private static void numbersTyped() {
        midway(Dojo.ARGUMENT, "step", 'x', 0);
        midway(Dojo.ARGUMENT, "step", 'n', 1000);
        midway(Dojo.ARGUMENT, "step", 'n', -1000);
        for (int kind = 0; kind <= 1; kind++) {
            midway(Dojo.ARGUMENT, "number", 1000, kind);
            midway(Dojo.ARGUMENT, "number", -1000, kind);
        }
    }

    private static void katas() {
        midway(Dojo.ARGUMENT, "kata", 0);
        midway(Dojo.ARGUMENT, "kata", 6);
        for (int kata : new int[] {-1, 3}) {
            midway(Dojo.INDEX, "test", kata);
            midway(Dojo.INDEX, "tests", kata);
            midway(Dojo.INDEX, "fix", kata, 0);
            midway(Dojo.INDEX, "run", kata, 0);
            midway(Dojo.INDEX, "submit", 0, kata);
            midway(Dojo.INDEX, "best", 0, kata);
        }
        midway(Dojo.INDEX, "fix", 0, -1);
        midway(Dojo.INDEX, "fix", 0, 2);
        midway(Dojo.INDEX, "fix", 1, 0);
    }

    private static void runs() {
        midway(Dojo.INDEX, "run", 0, -1);
        midway(Dojo.INDEX, "run", 0, 2);
        midway(Dojo.INDEX, "run", 1, 0);
        midway(Dojo.NO_ELEMENT, "output", -1);
        midway(Dojo.NO_ELEMENT, "output", 1);
    }

    private static void works() {
        for (int work : new int[] {-1, 6}) {
            for (String name : new String[] {"of", "state", "sum", "steps", "hasBody", "letter", "drop", "style", "left",
                "meanSteps"}) {
                midway(Dojo.INDEX, name, work, 'm');
            }
            for (String name : new String[] {"read", "vote", "challenge", "give", "answer"}) {
                midway(Dojo.INDEX, name, 2, work, 3);
            }
        }
        midway(Dojo.ARGUMENT, "of", 0, 'x');
        midway(Dojo.INDEX, "steps", 0, -1);
        midway(Dojo.INDEX, "steps", 0, 2);
        midway(Dojo.NO_ELEMENT, "steps", 2, 1);
        midway(Dojo.NO_ELEMENT, "steps", 3, 1);
        midway(Dojo.NO_ELEMENT, "letter", 0, -1);
        midway(Dojo.NO_ELEMENT, "letter", 0, 4);
        midway(Dojo.NO_ELEMENT, "letter", 2, 0);
    }

    private static void archive() {
        for (int work = 2; work <= 4; work++) {
            midway(Dojo.UNSUPPORTED, "drop", work);
            midway(Dojo.NO_ELEMENT, "letter", work, 0);
            midway(Dojo.NO_ELEMENT, "read", 2, work);
        }
        midway(Dojo.ARGUMENT, "capacity", 0);
        midway(Dojo.ARGUMENT, "capacity", 41);
        midway(Dojo.NO_ELEMENT, "copy", 0, 0);
        midway(Dojo.NO_ELEMENT, "copy", 2, -1);
        midway(Dojo.NO_ELEMENT, "copy", 2, 2);
    }

    private static void votes() {
        midway(Dojo.ARGUMENT, "vote", 1, 0, 0);
        midway(Dojo.ARGUMENT, "vote", 1, 0, 6);
        midway(Dojo.UNSUPPORTED, "vote", 0, 0, 3);
        for (int work = 1; work <= 4; work++) {
            midway(Dojo.UNSUPPORTED, "vote", 1, work, 3);
        }
        midway(Dojo.NO_ELEMENT, "review", 0);
        midway(Dojo.NO_ELEMENT, "best", 1, 0);
        midway(Dojo.NO_ELEMENT, "best", 0, 1);
    }

    private static void members() {
        for (int member : new int[] {-1, 4}) {
            for (String name : new String[] {"submit", "read", "copy", "vote", "review", "best", "points", "belt",
                "honour"}) {
                midway(Dojo.INDEX, name, member, 0, 3);
            }
            midway(Dojo.INDEX, "challenge", member, 2);
            midway(Dojo.INDEX, "give", member, 3);
            midway(Dojo.INDEX, "answer", member, 3);
            midway(Dojo.NO_ELEMENT, "ranked", member);
        }
        midway(Dojo.UNSUPPORTED, "submit", 0, 1);
    }

    private static void challenges() {
        midway(Dojo.UNSUPPORTED, "challenge", 0, 2);
        for (int work : new int[] {0, 1, 3, 4, 5}) {
            midway(Dojo.UNSUPPORTED, "challenge", 2, work);
        }
        for (int work : new int[] {0, 1, 2, 4, 5}) {
            midway(Dojo.UNSUPPORTED, "give", 2, work);
            midway(Dojo.UNSUPPORTED, "answer", 2, work);
            midway(Dojo.UNSUPPORTED, "left", work);
        }
        midway(Dojo.NO_ELEMENT, "give", 1, 3);
        midway(Dojo.NO_ELEMENT, "open", -1);
        midway(Dojo.NO_ELEMENT, "open", 1);
        midway(Dojo.ARGUMENT, "days", 0);
        midway(Dojo.ARGUMENT, "days", 31);
    }

    private static void notWhole() {
        Twins.refuse(check, Scenes::notWhole, Dojo.UNSUPPORTED, "run", 0, 0);
        Twins.refuse(check, Scenes::notWhole, Dojo.UNSUPPORTED, "submit", 0, 0);
        Twins.refuse(check, Scenes::notWhole, Dojo.UNSUPPORTED, "answer", 2, 3);
    }

    private static void full(Class<? extends RuntimeException> due, String name, int... args) {
        Twins.refuse(check, Scenes::full, due, name, args);
    }

    private static void full() {
        full(Dojo.STATE, "step", 'p', 0);
        full(Dojo.STATE, "step", 'n', 0);
        full(Dojo.STATE, "number", 0, 0);
        full(Dojo.STATE, "number", 0, 1);
        full(Dojo.STATE, "kata", 1);
        full(Dojo.STATE, "test", 0);
        full(Dojo.STATE, "member");
        full(Dojo.STATE, "submit", 0, 0);
        Twins.refuse(check, Scenes::fullNotPassing, Dojo.STATE, "submit", 0, 0);
        full(Dojo.STATE, "challenge", 3, 8);
        full(Dojo.INDEX, "tests", 8);
        full(Dojo.INDEX, "fix", 0, 5);
        full(Dojo.INDEX, "run", 0, 5);
        full(Dojo.INDEX, "honour", 10);
        full(Dojo.INDEX, "state", 40);
        full(Dojo.NO_ELEMENT, "copy", 3, 3);
        full(Dojo.NO_ELEMENT, "open", 8);
        full(Dojo.NO_ELEMENT, "ranked", 10);
        full(Dojo.NO_ELEMENT, "letter", 9, 24);
    }
}
