/** Promises 43 to 46: the checksum, the share that stands, the mean of steps, and isSound. */
public final class SumsTest {
    private static final Check check = new Check("SumsTest");

    public static void main(String[] args) {
        checksums();
        shares();
        means();
        sound();
        unsound();
        check.finish();
    }

    private static long add(long sum, long... parts) {
        for (long part : parts) {
            sum = sum * 31 + part;
        }
        return sum;
    }

    private static void checksums() {
        Katacode x = Dojo.doubling(3, 4, 1);
        check.same("members alone", x.checksum(), add(7, 10, 10, 10));
        Dojo.submit(x, 0, 0, Dojo.DOUBLE);
        Dojo.submit(x, 1, 0, Dojo.DOUBLE);
        check.same("works without votes", x.checksum(), add(7, 's', 0, 's', 0, 10, 10, 10));
        x.vote(1, 0, 3);
        x.vote(2, 0, 5);
        x.vote(0, 1, 1);
        check.same("votes times weights", x.checksum(), add(7, 's', 3 * 2 + 5, 's', 2, 10, 10, 10));
        x.drop(0);
        x.challenge(2, 0);
        check.same("states and honour", x.checksum(), add(7, 'c', 11, 's', 2, 10, 10, 8));
        x.days(7);
        check.same("votes of one that is broken", x.checksum(), add(7, 'b', 11, 's', 2, 10, 10, 13));
        long due = 7;
        for (int i = 2; i < 20; i++) {
            Dojo.submit(x, 0, 1, Dojo.SIX);
        }
        due = add(due, 'b', 11, 's', 2);
        for (int i = 2; i < 20; i++) {
            due = add(due, x.state(i), 0);
        }
        check.same("a sum that wraps around", x.checksum(), add(due, 10, 10, 13));
    }

    private static void shares() {
        Katacode x = Dojo.doubling(2, 1);
        check.refuses("without works", Dojo.ARITHMETIC, x::standingShare);
        for (int i = 0; i < 3; i++) {
            Dojo.submit(x, 0, 0, i == 1 ? Dojo.SIX : Dojo.DOUBLE);
        }
        check.same("all in s", x.standingShare(), 1.0f);
        Dojo.test(x, 0, Dojo.row(1), Dojo.row(2));
        check.same("one in f", x.standingShare(), 2.0f / 3.0f);
        x.drop(0);
        check.same("in p", x.standingShare(), 2.0f / 3.0f);
        x.challenge(1, 0);
        check.same("in c", x.standingShare(), 2.0f / 3.0f);
        x.days(7);
        check.same("in b", x.standingShare(), 1.0f / 3.0f);
        Dojo.fix(x, 0, 0, Dojo.row(3), Dojo.row(7));
        check.same("none", x.standingShare(), 0.0f);
    }

    private static void means() {
        Katacode x = Dojo.doubling(1, 1);
        Dojo.submit(x, 0, 0, "n6 o i [ n1 - ]");
        check.same("of one test", x.meanSteps(0), 13.0);
        Dojo.test(x, 0, Dojo.row(1), Dojo.row(6));
        Dojo.test(x, 0, Dojo.row(1), Dojo.row(6));
        check.same("of three", x.meanSteps(0), 27.0 / 3.0);
        Dojo.test(x, 0, Dojo.NO_NUMBERS, Dojo.row(6));
        check.same("with an error", x.meanSteps(0), 29.0 / 4.0);
        Dojo.fix(x, 0, 3, Dojo.row(2), Dojo.row(6));
        check.same("put right", x.meanSteps(0), 37.0 / 4.0);
        x.drop(0);
        Dojo.fix(x, 0, 0, Dojo.row(1), Dojo.row(1));
        check.same("that are kept", x.meanSteps(0), 37.0 / 4.0);
        Dojo.test(x, 0, Dojo.row(1), Dojo.row(6));
        check.same("without the one that is added", x.meanSteps(0), 37.0 / 4.0);
        check.refuses("meanSteps(-1)", Dojo.INDEX, () -> x.meanSteps(-1));
        check.refuses("meanSteps(1)", Dojo.INDEX, () -> x.meanSteps(1));
    }

    private static void sound() {
        Katacode x = Dojo.doubling(2, 1);
        check.same("isSound without works", x.isSound(), true);
        Dojo.submit(x, 0, 0, Dojo.SIX);
        check.same("in s", x.isSound(), true);
        Dojo.test(x, 0, Dojo.row(1), Dojo.row(2));
        check.same("in f", x.isSound(), true);
        x.drop(0);
        check.same("in b", x.isSound(), true);
        Dojo.submit(x, 0, 0, Dojo.DOUBLE);
        x.drop(1);
        check.same("in p", x.isSound(), true);
        x.challenge(1, 1);
        check.same("in c", x.isSound(), true);
        x.answer(0, 1);
        check.same("in s again", x.isSound(), true);
    }

    /** No call makes an object unsound, so a field is changed from outside. */
    private static void unsound() {
        check.same("another sum", soundWith(x -> Insides.set(Insides.work(x, 0), "sum", 1L)), false);
        check.same("s though it fails", soundWith(x -> Insides.set(Insides.work(x, 1), "state", 's')), false);
        check.same("f though it passes", soundWith(x -> Insides.set(Insides.work(x, 0), "state", 'f')), false);
        check.same("more bodies than room", soundWith(x -> Insides.set(x, "room", 1)), false);
        check.same("c without a challenge", soundWith(x -> Insides.set(x, "openCount", 0)), false);
        check.same("a challenge without c", soundWith(x -> Insides.set(Insides.work(x, 2), "state", 'p')), false);
        check.same("a challenge of another one", soundWith(x -> ((int[]) Insides.get(x, "openWorks"))[0] = 0), false);
        check.same("another sum of weights", soundWith(x -> Insides.set(Insides.work(x, 0), "weightSum", 1)), false);
        check.same("another sum of votes", soundWith(x -> Insides.set(Insides.work(x, 0), "votesTimesWeights", 1)), false);
        check.same("one challenge twice, another not at all", isSoundWithOneOpenTwice(), false);
        check.same("nothing changed", soundWith(x -> { }), true);
    }

    private static boolean soundWith(java.util.function.Consumer<Katacode> change) {
        Katacode x = Dojo.doubling(2, 1);
        Dojo.submit(x, 0, 0, Dojo.DOUBLE);
        Dojo.submit(x, 0, 0, Dojo.SIX);
        Dojo.submit(x, 0, 0, Dojo.DOUBLE);
        x.drop(2);
        x.challenge(1, 2);
        Dojo.test(x, 0, Dojo.row(1), Dojo.row(2));
        change.accept(x);
        return x.isSound();
    }

    private static boolean isSoundWithOneOpenTwice() {
        Katacode x = Dojo.doubling(2, 1);
        for (int work = 0; work < 2; work++) {
            Dojo.submit(x, 0, 0, Dojo.DOUBLE);
            x.drop(work);
            x.challenge(1, work);
        }
        check.same("two that are open", x.isSound(), true);
        ((int[]) Insides.get(x, "openWorks"))[1] = 0;
        return x.isSound();
    }
}
