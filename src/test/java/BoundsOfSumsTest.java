import java.util.function.Consumer;

/** The boundary cases of promises 43 to 46: sums over the dojo, shares, means, and what is sound. */
public final class BoundsOfSumsTest {
    private static final Check check = new Check("BoundsOfSumsTest");

    public static void main(String[] args) {
        checksumOfNothing();
        checksumOfMembers();
        checksumOfEachState();
        checksumOfVotes();
        checksumThatWraps();
        checksumOfHonour();
        shareOfNone();
        shareOfAll();
        shareOfNoneThatCount();
        shareOfSome();
        meanOfOneTest();
        meanOfFiveTests();
        meanOfNoSteps();
        meanOfWhatIsKept();
        soundAtFirst();
        soundWithAsManyBodiesAsRoom();
        soundInEachState();
        unsoundByOneBodyAlone();
        unsoundByVotes();
        unsoundByChallenges();
        unsoundByRoom();
        check.finish();
    }

    private static long add(long sum, long... parts) {
        for (long part : parts) {
            sum = sum * 31 + part;
        }
        return sum;
    }

    private static void checksumOfNothing() {
        check.words("Returns 7 at first");
        Katacode x = new Katacode();
        check.same("a new one", x.checksum(), 7L);
        x.test(x.kata(5));
        x.step('n', 1);
        x.number(1, true);
        x.capacity(3);
        x.days(3);
        check.same("without works and members", x.checksum(), 7L);
    }

    private static void checksumOfMembers() {
        check.words("then for each member 31 times itself plus the honour");
        Katacode x = new Katacode();
        long due = 7;
        for (int member = 0; member < 10; member++) {
            x.member();
            due = add(due, 10);
            check.same("of " + (member + 1), x.checksum(), due);
        }
    }

    private static void checksumOfEachState() {
        check.words("for each work 31 times itself plus the state as a number");
        Katacode x = Dojo.doubling(2, 1);
        Dojo.submit(x, 0, 0, Dojo.SIX);
        check.same("s", x.checksum(), add(7, 's', 0, 10, 10));
        Dojo.fix(x, 0, 0, Dojo.row(3), Dojo.row(7));
        check.same("f", x.checksum(), add(7, 'f', 0, 10, 10));
        Dojo.fix(x, 0, 0, Dojo.row(3), Dojo.row(6));
        x.drop(0);
        check.same("p", x.checksum(), add(7, 'p', 0, 10, 10));
        x.challenge(1, 0);
        check.same("c", x.checksum(), add(7, 'c', 0, 10, 8));
        x.days(7);
        check.same("b", x.checksum(), add(7, 'b', 0, 10, 13));
    }

    private static void checksumOfVotes() {
        check.words("then 31 times itself plus the sum of votes times weights");
        Katacode x = Dojo.doubling(3, 4);
        Dojo.submit(x, 0, 0, Dojo.DOUBLE);
        Dojo.submit(x, 1, 0, Dojo.DOUBLE);
        check.same("0 without votes, where the style is 1", x.checksum(), add(7, 's', 0, 's', 0, 10, 10, 10));
        x.vote(1, 0, 3);
        x.vote(2, 0, 5);
        check.same("2 times 3 and 5", x.checksum(), add(7, 's', 11, 's', 0, 10, 10, 10));
        x.vote(1, 0, 1);
        check.same("2 times 1 and 5", x.checksum(), add(7, 's', 7, 's', 0, 10, 10, 10));
        x.drop(0);
        check.same("without a body", x.checksum(), add(7, 'p', 7, 's', 0, 10, 10, 10));
        x.challenge(2, 0);
        x.days(7);
        check.same("of one that is broken", x.checksum(), add(7, 'b', 7, 's', 0, 10, 10, 13));
    }

    private static void checksumThatWraps() {
        check.words("long checksum()");
        Katacode x = Dojo.doubling(1, 1);
        Dojo.type(x, Dojo.DOUBLE);
        x.capacity(40);
        long works = 7;
        boolean wasBelow = false;
        for (int i = 0; i < 40; i++) {
            x.submit(0, 0);
            works = add(works, 's', 0);
            check.same("of " + (i + 1) + " works", x.checksum(), add(works, 10));
            wasBelow |= x.checksum() < 0;
        }
        check.same("it wraps to below 0", wasBelow, true);
    }

    private static void checksumOfHonour() {
        check.words("plus the honour");
        Katacode x = Dojo.doubling(2, 1);
        Dojo.submit(x, 0, 0, Dojo.DOUBLE);
        for (int i = 0; i < 5; i++) {
            x.submit(0, 0);
            x.drop(i);
            x.challenge(1, i);
        }
        long works = add(7, 'c', 0, 'c', 0, 'c', 0, 'c', 0, 'c', 0, 's', 0);
        check.same("no honour", x.checksum(), add(works, 10, 0));
        x.days(7);
        works = add(7, 'b', 0, 'b', 0, 'b', 0, 'b', 0, 'b', 0, 's', 0);
        check.same("25 honour", x.checksum(), add(works, 10, 25));
    }

    private static void shareOfNone() {
        check.words("Throws ArithmeticException if there are none");
        Katacode x = Dojo.doubling(1, 1);
        check.refuses("without works", Dojo.ARITHMETIC, x::standingShare);
        Dojo.submit(x, 0, 0, "n1 o");
        check.refuses("with one that did not pass", Dojo.ARITHMETIC, x::standingShare);
        Dojo.submit(x, 0, 0, Dojo.DOUBLE);
        check.same("with one", x.standingShare(), 1.0f);
    }

    private static void shareOfAll() {
        check.words("Returns the share of works that count");
        Katacode x = Dojo.doubling(1, 1);
        Dojo.type(x, Dojo.DOUBLE);
        for (int i = 0; i < 40; i++) {
            x.submit(0, 0);
            check.same("all of " + (i + 1), x.standingShare(), 1.0f);
        }
        Dojo.fix(x, 0, 0, Dojo.row(3), Dojo.row(7));
        check.same("28 in p of 40", x.standingShare(), 28.0f / 40.0f);
    }

    private static void shareOfNoneThatCount() {
        check.words("Returns the share of works that count");
        Katacode x = Dojo.doubling(1, 1);
        Dojo.submit(x, 0, 0, Dojo.DOUBLE);
        Dojo.fix(x, 0, 0, Dojo.row(3), Dojo.row(7));
        check.same("in f", x.standingShare(), 0.0f);
        x.drop(0);
        check.same("in b", x.standingShare(), 0.0f);
    }

    private static void shareOfSome() {
        check.words("Returns their number divided by that of all, both converted to float");
        for (int all = 1; all <= 12; all++) {
            Katacode x = Dojo.doubling(1, 1);
            Dojo.type(x, Dojo.SIX);
            for (int i = 0; i < all; i++) {
                x.submit(0, 0);
            }
            for (int i = 0; i < all / 3; i++) {
                x.drop(i);
            }
            Dojo.fix(x, 0, 0, Dojo.row(3), Dojo.row(7));
            check.same("a third of " + all, x.standingShare(), (float) (all / 3) / (float) all);
        }
    }

    private static void meanOfOneTest() {
        check.words("Returns the mean of steps of the tests of which steps() tells some");
        Katacode x = Dojo.doubling(1, 1);
        Dojo.submit(x, 0, 0, Dojo.DOUBLE);
        check.same("of one", x.meanSteps(0), 4.0);
        x.drop(0);
        check.same("of one that is kept", x.meanSteps(0), 4.0);
    }

    /** Takes 4 steps, and 3 for each of the input. */
    private static final String BY_INPUT = "n6 o i [ n1 - ]";

    private static void meanOfFiveTests() {
        check.words("Returns the sum divided by their number, both converted to double");
        Katacode x = new Katacode();
        x.kata(1);
        x.member();
        Dojo.test(x, 0, Dojo.row(1), Dojo.row(6));
        Dojo.submit(x, 0, 0, BY_INPUT);
        int[] inputs = {1, 1, 2, 5, 98};
        int sum = 7;
        for (int i = 1; i < 5; i++) {
            Dojo.test(x, 0, Dojo.row(inputs[i]), Dojo.row(6));
            sum += 4 + 3 * inputs[i];
            check.same("of " + (i + 1), x.meanSteps(0), (double) sum / (double) (i + 1));
        }
        check.same("298 steps in the last", x.steps(0, 4), 298);
        check.same("not a float", (double) (float) x.meanSteps(0) == x.meanSteps(0), false);
    }

    private static void meanOfNoSteps() {
        check.words("Returns the sum divided by their number");
        Katacode x = Dojo.doubling(1, 1);
        x.fix(0, 0);
        Dojo.submit(x, 0, 0, "");
        check.same("of a body without steps", x.meanSteps(0), 0.0);
    }

    private static void meanOfWhatIsKept() {
        check.words("of the tests of which steps() tells some");
        Katacode x = Dojo.doubling(2, 1);
        Dojo.submit(x, 0, 0, BY_INPUT);
        Dojo.test(x, 0, Dojo.row(1), Dojo.row(6));
        check.same("of two", x.meanSteps(0), 10.0);
        x.drop(0);
        Dojo.test(x, 0, Dojo.row(9), Dojo.row(6));
        Dojo.fix(x, 0, 0, Dojo.row(9), Dojo.row(6));
        check.same("not of the one that is added", x.meanSteps(0), 10.0);
        x.challenge(1, 0);
        Dojo.type(x, BY_INPUT);
        x.answer(1, 0);
        check.same("of three with the body", x.meanSteps(0), (double) (31 + 7 + 31) / 3.0);
        x.drop(0);
        x.challenge(1, 0);
        x.days(7);
        check.same("of three in b", x.meanSteps(0), 23.0);
    }

    private static void soundAtFirst() {
        check.words("Returns whether so");
        Katacode x = new Katacode();
        check.same("a new one", x.isSound(), true);
        x.kata(1);
        x.member();
        check.same("with a kata and a member", x.isSound(), true);
    }

    private static void soundWithAsManyBodiesAsRoom() {
        check.words("and bodies are at most the room");
        Katacode x = Dojo.doubling(1, 1);
        Dojo.type(x, Dojo.DOUBLE);
        for (int i = 0; i < 14; i++) {
            x.submit(0, 0);
            check.same("with " + x.bodies() + " of 12", x.isSound(), true);
        }
        x.capacity(1);
        check.same("with 1 of 1", x.isSound(), true);
        x.drop(13);
        check.same("with 0 of 1", x.isSound(), true);
        check.same("with all that there can be", Scenes.full().isSound(), true);
    }

    private static void soundInEachState() {
        check.words("each body has the sum of its work, and passes or fails as its state tells");
        Katacode x = Dojo.doubling(3, 5);
        Dojo.submit(x, 0, 0, Dojo.SIX);
        x.vote(1, 0, 5);
        check.same("in s", x.isSound(), true);
        Dojo.fix(x, 0, 0, Dojo.row(3), Dojo.row(7));
        check.same("in f", x.isSound(), true);
        Dojo.fix(x, 0, 0, Dojo.row(3), Dojo.row(6));
        x.drop(0);
        check.same("in p", x.isSound(), true);
        x.challenge(1, 0);
        check.same("in c", x.isSound(), true);
        Dojo.type(x, Dojo.SIX);
        x.answer(2, 0);
        check.same("in s again", x.isSound(), true);
        x.drop(0);
        x.challenge(1, 0);
        Dojo.fix(x, 0, 0, Dojo.row(3), Dojo.row(7));
        x.answer(2, 0);
        check.same("in b by its body", x.isSound(), true);
    }

    /** Works 0 and 3 of member 0 in s, 1 in f, 2 and 4 in c; the first and the last one have votes. */
    private static Katacode ofFive() {
        Katacode x = Dojo.doubling(10, 1);
        for (int work = 0; work < 5; work++) {
            Dojo.submit(x, 0, 0, work == 1 ? Dojo.SIX : Dojo.DOUBLE);
        }
        for (int work = 0; work < 5; work += 4) {
            x.vote(1, work, 2);
            x.vote(9, work, 4);
        }
        x.drop(2);
        x.drop(4);
        x.challenge(1, 2);
        x.challenge(2, 4);
        Dojo.test(x, 0, Dojo.row(1), Dojo.row(2));
        return x;
    }

    private static void unsound(String what, Consumer<Katacode> change) {
        Katacode x = ofFive();
        check.same("before " + what, x.isSound(), true);
        change.accept(x);
        check.same(what, x.isSound(), false);
    }

    private static void unsoundByOneBodyAlone() {
        check.words("each body has the sum of its work");
        for (int work : new int[] {0, 1, 3}) {
            long sum = ofFive().sum(work);
            unsound("a greater sum of work " + work, x -> Insides.set(Insides.work(x, work), "sum", sum + 1));
            unsound("a lesser sum of work " + work, x -> Insides.set(Insides.work(x, work), "sum", sum - 1));
            unsound("another sum in the upper half of work " + work,
                x -> Insides.set(Insides.work(x, work), "sum", sum + (1L << 32)));
            unsound("another body of work " + work, x -> typeBehind(x, work, 'p'));
        }
        check.words("passes or fails as its state tells");
        for (int work : new int[] {0, 3}) {
            unsound("work " + work + " in f though it passes", x -> Insides.set(Insides.work(x, work), "state", 'f'));
            unsound("work " + work + " in p with a body", x -> Insides.set(Insides.work(x, work), "state", 'p'));
            unsound("work " + work + " in b with a body", x -> Insides.set(Insides.work(x, work), "state", 'b'));
        }
        unsound("work 1 in s though it fails", x -> Insides.set(Insides.work(x, 1), "state", 's'));
    }

    private static void typeBehind(Katacode x, int work, char letter) {
        ((Katacode.Program) Insides.get(Insides.work(x, work), "body")).append(letter, 0);
    }

    private static void unsoundByVotes() {
        check.words("each belt is what votes and states make");
        for (int work : new int[] {0, 4}) {
            for (int more : new int[] {-1, 1}) {
                unsound("the sum of weights and " + more,
                    x -> Insides.set(Insides.work(x, work), "weightSum", 2 + more));
                unsound("votes times weights and " + more,
                    x -> Insides.set(Insides.work(x, work), "votesTimesWeights", 6 + more));
            }
            for (int member : new int[] {1, 9}) {
                unsound("another vote of " + member, x -> Insides.put(Insides.work(x, work), "votes", member, 5));
            }
            for (int member : new int[] {0, 1, 9}) {
                unsound("another weight of " + member, x -> Insides.put(Insides.work(x, work), "weights", member, 2));
            }
        }
    }

    private static void unsoundByChallenges() {
        check.words("works in c are those with an open challenge");
        for (int index = 0; index < 2; index++) {
            int place = index;
            for (int work : new int[] {0, 1, 3}) {
                unsound("a challenge of work " + work, x -> Insides.put(x, "openWorks", place, work));
            }
            unsound("a challenge twice", x -> Insides.put(x, "openWorks", place, place == 0 ? 4 : 2));
        }
        for (int work : new int[] {2, 4}) {
            unsound("a challenge of work " + work + " in p", x -> Insides.set(Insides.work(x, work), "state", 'p'));
            unsound("a challenge of work " + work + " in b", x -> Insides.set(Insides.work(x, work), "state", 'b'));
        }
        unsound("one challenge less", x -> Insides.set(x, "openCount", 1));
        unsound("none", x -> Insides.set(x, "openCount", 0));
    }

    private static void unsoundByRoom() {
        check.words("and bodies are at most the room");
        Katacode x = ofFive();
        check.same("bodies", x.bodies(), 3);
        Insides.set(x, "room", 3);
        check.same("as many as the room", x.isSound(), true);
        Insides.set(x, "room", 2);
        check.same("one more than the room", x.isSound(), false);
    }
}
