import java.util.function.Supplier;

/**
 * 'If several exceptions apply, the one that is documented first is thrown': each two of a promise that can apply at
 * once, and that nothing is changed by it.
 */
public final class OrderOfExceptionsTest {
    private static final Check check = new Check("OrderOfExceptionsTest");

    public static void main(String[] args) {
        check.words("If several exceptions apply, the one that is documented first is thrown");
        typing();
        katas();
        runs();
        submits();
        works();
        copies();
        votes();
        challenges();
        gives();
        answers();
        check.finish();
    }

    private static void first(Supplier<Katacode> scene, Class<? extends RuntimeException> due, String name, int... args) {
        Twins.refuse(check, scene, due, name, args);
    }

    /** No such letter or number before the 24 steps, out of range before the 6 or 4. */
    private static void typing() {
        first(Scenes::full, Dojo.ARGUMENT, "step", 'x', 0);
        first(Scenes::full, Dojo.ARGUMENT, "step", 'n', 1000);
        first(Scenes::full, Dojo.ARGUMENT, "step", 'n', -1000);
        for (int kind = 0; kind <= 1; kind++) {
            first(Scenes::full, Dojo.ARGUMENT, "number", 1000, kind);
            first(Scenes::full, Dojo.ARGUMENT, "number", -1000, kind);
        }
    }

    /** Out of range before the 8, no such kata before the 5 tests. */
    private static void katas() {
        first(Scenes::full, Dojo.ARGUMENT, "kata", 0);
        first(Scenes::full, Dojo.ARGUMENT, "kata", 6);
        first(Scenes::full, Dojo.INDEX, "test", 8);
        first(Scenes::full, Dojo.INDEX, "test", -1);
    }

    /** No such kata or test before not whole. */
    private static void runs() {
        first(Scenes::notWhole, Dojo.INDEX, "run", -1, 0);
        first(Scenes::notWhole, Dojo.INDEX, "run", 3, 0);
        first(Scenes::notWhole, Dojo.INDEX, "run", 0, -1);
        first(Scenes::notWhole, Dojo.INDEX, "run", 0, 2);
        first(Scenes::notWhole, Dojo.INDEX, "run", 1, 0);
    }

    /** No such member or kata before not whole or no test, and each of them before the 40 works. */
    private static void submits() {
        first(Scenes::notWhole, Dojo.INDEX, "submit", 4, 0);
        first(Scenes::notWhole, Dojo.INDEX, "submit", -1, 0);
        first(Scenes::notWhole, Dojo.INDEX, "submit", 0, 3);
        first(Scenes::notWhole, Dojo.INDEX, "submit", 0, -1);
        first(Scenes::midway, Dojo.INDEX, "submit", 4, 1);
        first(Scenes::full, Dojo.INDEX, "submit", 10, 0);
        first(Scenes::full, Dojo.INDEX, "submit", 0, 8);
        first(Scenes::full, Dojo.INDEX, "submit", 10, 7);
        first(Scenes::full, Dojo.UNSUPPORTED, "submit", 0, 7);
        first(Scenes::fullNotWhole, Dojo.INDEX, "submit", 10, 0);
        first(Scenes::fullNotWhole, Dojo.INDEX, "submit", 0, 8);
        first(Scenes::fullNotWhole, Dojo.UNSUPPORTED, "submit", 0, 0);
        first(Scenes::fullNotWhole, Dojo.UNSUPPORTED, "submit", 0, 7);
    }

    /** No such work before anything about it. */
    private static void works() {
        first(Scenes::midway, Dojo.INDEX, "of", 6, 'x');
        first(Scenes::midway, Dojo.INDEX, "of", -1, 'x');
        first(Scenes::midway, Dojo.INDEX, "steps", 2, 2);
        first(Scenes::midway, Dojo.INDEX, "letter", 6, -1);
        first(Scenes::midway, Dojo.INDEX, "letter", -1, 24);
    }

    /** No such member before no body, no copy, and no work that is taken. */
    private static void copies() {
        first(Scenes::midway, Dojo.INDEX, "read", 4, 2);
        first(Scenes::midway, Dojo.INDEX, "read", -1, 4);
        first(Scenes::midway, Dojo.INDEX, "copy", 4, 3);
        first(Scenes::midway, Dojo.INDEX, "copy", -1, -1);
        first(Scenes::midway, Dojo.INDEX, "best", 4, 1);
        first(Scenes::midway, Dojo.INDEX, "best", 3, 3);
    }

    /** No such member or work before the style, and that before the own one, no body and f. */
    private static void votes() {
        first(Scenes::midway, Dojo.INDEX, "vote", 4, 0, 0);
        first(Scenes::midway, Dojo.INDEX, "vote", 1, 6, 6);
        first(Scenes::midway, Dojo.INDEX, "vote", 4, 2, 3);
        first(Scenes::midway, Dojo.INDEX, "vote", 4, 1, 0);
        first(Scenes::midway, Dojo.ARGUMENT, "vote", 0, 0, 0);
        first(Scenes::midway, Dojo.ARGUMENT, "vote", 0, 0, 6);
        for (int work = 1; work <= 4; work++) {
            first(Scenes::midway, Dojo.ARGUMENT, "vote", 1, work, 0);
            first(Scenes::midway, Dojo.ARGUMENT, "vote", 1, work, 6);
        }
    }

    /** No such member or work before the own one, not in p or too little honour, and each of them before the 8. */
    private static void challenges() {
        first(Scenes::midway, Dojo.INDEX, "challenge", 4, 0);
        first(Scenes::midway, Dojo.INDEX, "challenge", -1, 3);
        first(Scenes::full, Dojo.INDEX, "challenge", 10, 8);
        first(Scenes::full, Dojo.INDEX, "challenge", 10, 9);
        first(Scenes::full, Dojo.INDEX, "challenge", 2, 40);
        first(Scenes::full, Dojo.INDEX, "challenge", 3, -1);
        first(Scenes::full, Dojo.UNSUPPORTED, "challenge", 0, 8);
        first(Scenes::full, Dojo.UNSUPPORTED, "challenge", 3, 9);
        first(Scenes::full, Dojo.UNSUPPORTED, "challenge", 3, 0);
        first(Scenes::full, Dojo.UNSUPPORTED, "challenge", 2, 8);
    }

    /** No such member or work before not in c, and each of them before no copy. */
    private static void gives() {
        first(Scenes::midway, Dojo.INDEX, "give", 4, 0);
        first(Scenes::midway, Dojo.INDEX, "give", -1, 2);
        first(Scenes::midway, Dojo.INDEX, "give", 4, 3);
        first(Scenes::midway, Dojo.INDEX, "give", 3, 6);
        for (int work : new int[] {0, 1, 2, 4, 5}) {
            first(Scenes::midway, Dojo.UNSUPPORTED, "give", 3, work);
        }
    }

    /** No such member or work before not in c, and before not whole. */
    private static void answers() {
        first(Scenes::midway, Dojo.INDEX, "answer", 4, 0);
        first(Scenes::notWhole, Dojo.INDEX, "answer", 4, 3);
        first(Scenes::notWhole, Dojo.INDEX, "answer", -1, 0);
        first(Scenes::notWhole, Dojo.INDEX, "answer", 2, 6);
        first(Scenes::notWhole, Dojo.UNSUPPORTED, "answer", 2, 2);
    }
}
