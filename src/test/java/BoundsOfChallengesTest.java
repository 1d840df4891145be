/** The boundary cases of 'Challenges', and of promises 37 to 42. */
public final class BoundsOfChallengesTest {
    private static final Check check = new Check("BoundsOfChallengesTest");
    private static final int MIN = Integer.MIN_VALUE;
    private static final int MAX = Integer.MAX_VALUE;
    /** Both have one sum, and other steps for an input of 0 or 1 alone. */
    private static final String BODY = "n6 o i n0 n961 p - [ n0 ]";
    private static final String LIKE_BODY = "n6 o i n1 n0 p - [ n0 ]";

    public static void main(String[] args) {
        challengesOfTheOwnOne();
        challengesInP();
        challengesByHonour();
        challengesDownToNoHonour();
        challengesOfOneHonour();
        eightAreOpen();
        eightAreOpenAgain();
        givesInC();
        givesWithoutACopy();
        givesByAnyMember();
        answersInC();
        answersThatAreNotWhole();
        answersByAnyMember();
        answersWithNothing();
        sumsThatAreKept();
        moreStepsThanAreKept();
        fewerStepsThanAreKept();
        stepsOfEachTest();
        stepsOfTestsThatAreNew();
        testsPutRightBeforeTheDrop();
        testsAddedSince();
        newSinceTheLastDrop();
        standsByItsBody();
        fallsByItsBody();
        fallsByWhoChallenged();
        passesTheTestsAsTheyAreNow();
        droppedAgainAtOnce();
        roomForABodyThatIsBack();
        roomForABodyThatFalls();
        closedForGood();
        daysInRange();
        daysOutOfRange();
        openForSevenDays();
        sevenTimesOneDay();
        eightAreOverAtOnce();
        sevenDaysEach();
        openOfNone();
        openByTheOrderOfTheirEnd();
        openOnesThatClose();
        leftInC();
        check.finish();
    }

    /** Works of member 0 by the program, all in p. */
    private static Katacode proved(int works, int members, String program) {
        Katacode x = Dojo.doubling(members, 1);
        Dojo.type(x, program);
        for (int i = 0; i < works; i++) {
            x.submit(0, 0);
            x.drop(i);
        }
        return x;
    }

    private static Katacode challenged(String program) {
        Katacode x = proved(1, 3, program);
        x.challenge(1, 0);
        return x;
    }

    private static void challengesOfTheOwnOne() {
        check.words("if it is the own one");
        Katacode x = proved(2, 2, Dojo.DOUBLE);
        check.refuses("the own one", Dojo.UNSUPPORTED, () -> x.challenge(0, 0));
        check.same("its honour", x.honour(0), 10);
        check.same("its state", x.state(0), 'p');
        check.same("by another", x.challenge(1, 0), 1);
        check.refuses("the own one in c", Dojo.UNSUPPORTED, () -> x.challenge(0, 0));
    }

    private static void challengesInP() {
        check.words("not in p");
        Katacode x = Dojo.doubling(3, 1);
        Dojo.submit(x, 0, 0, Dojo.SIX);
        check.refuses("in s", Dojo.UNSUPPORTED, () -> x.challenge(1, 0));
        Dojo.fix(x, 0, 0, Dojo.row(3), Dojo.row(7));
        check.refuses("in f", Dojo.UNSUPPORTED, () -> x.challenge(1, 0));
        Dojo.fix(x, 0, 0, Dojo.row(3), Dojo.row(6));
        x.drop(0);
        check.same("in p", x.challenge(1, 0), 1);
        check.refuses("in c", Dojo.UNSUPPORTED, () -> x.challenge(1, 0));
        check.refuses("in c, by another", Dojo.UNSUPPORTED, () -> x.challenge(2, 0));
        x.days(7);
        check.refuses("in b", Dojo.UNSUPPORTED, () -> x.challenge(1, 0));
        check.same("honour", x.honour(1), 13);
        check.same("honour of another", x.honour(2), 10);
    }

    private static void challengesByHonour() {
        check.words("can challenge a work in 'p' of another one, which costs 2");
        Katacode x = proved(1, 2, Dojo.DOUBLE);
        check.same("challenge", x.challenge(1, 0), 1);
        check.same("honour", x.honour(1), 8);
        check.same("honour of the owner", x.honour(0), 10);
    }

    private static void challengesDownToNoHonour() {
        check.words("A member who has 2 or more");
        Katacode x = proved(6, 2, Dojo.DOUBLE);
        for (int i = 0; i < 5; i++) {
            check.same("honour", x.honour(1), 10 - 2 * i);
            check.same("challenge", x.challenge(1, i), i + 1);
        }
        check.same("no honour", x.honour(1), 0);
        check.refuses("without honour", Dojo.UNSUPPORTED, () -> x.challenge(1, 5));
        check.same("it stays in p", x.state(5), 'p');
        check.same("five are open", x.open(4), 4);
        check.refuses("not six", Dojo.NO_ELEMENT, () -> x.open(5));
    }

    private static void challengesOfOneHonour() {
        check.words("the member has less than 2 honour");
        Katacode x = proved(7, 2, Dojo.DOUBLE);
        for (int i = 0; i < 4; i++) {
            x.challenge(1, i);
        }
        check.same("honour", x.honour(1), 2);
        check.same("who challenged tells the body", x.answer(1, 0), 's');
        check.same("honour", x.honour(1), 5);
        check.same("with 5", x.challenge(1, 4), 4);
        check.same("with 3", x.challenge(1, 5), 5);
        check.same("honour", x.honour(1), 1);
        check.refuses("with 1", Dojo.UNSUPPORTED, () -> x.challenge(1, 6));
        check.same("honour", x.honour(1), 1);
        check.same("the body again", x.answer(1, 1), 's');
        check.same("with 4", x.challenge(1, 6), 5);
    }

    private static void eightAreOpen() {
        check.words("at most 8 are open");
        Katacode x = proved(9, 3, Dojo.DOUBLE);
        for (int i = 0; i < 8; i++) {
            check.same("challenge", x.challenge(1 + i / 4, i), i + 1);
        }
        check.same("honour", x.honour(1), 2);
        check.refuses("the ninth", Dojo.STATE, () -> x.challenge(1, 8));
        check.same("honour stays", x.honour(1), 2);
        check.same("it stays in p", x.state(8), 'p');
        check.refuses("it is not open", Dojo.NO_ELEMENT, () -> x.open(8));
        check.same("isSound", x.isSound(), true);
    }

    private static void eightAreOpenAgain() {
        check.words("Throws IllegalStateException if 8 are open");
        Katacode x = proved(12, 10, Dojo.DOUBLE);
        for (int i = 0; i < 8; i++) {
            x.challenge(1 + i, i);
        }
        check.same("one is answered", x.answer(9, 3), 's');
        check.same("there is room for one", x.challenge(9, 8), 8);
        check.refuses("not for two", Dojo.STATE, () -> x.challenge(9, 9));
        check.same("all are over", x.days(7), 8);
        for (int i = 9; i < 12; i++) {
            check.same("there is room for 8", x.challenge(9, i), i - 8);
        }
    }

    private static void givesInC() {
        check.words("if it is not in c");
        Katacode x = Dojo.doubling(3, 1);
        Dojo.submit(x, 0, 0, Dojo.SIX);
        x.read(2, 0);
        check.refuses("in s", Dojo.UNSUPPORTED, () -> x.give(2, 0));
        Dojo.fix(x, 0, 0, Dojo.row(3), Dojo.row(7));
        check.refuses("in f", Dojo.UNSUPPORTED, () -> x.give(2, 0));
        Dojo.fix(x, 0, 0, Dojo.row(3), Dojo.row(6));
        x.drop(0);
        check.refuses("in p", Dojo.UNSUPPORTED, () -> x.give(2, 0));
        x.challenge(1, 0);
        check.same("in c", x.give(2, 0), 's');
        x.drop(0);
        x.challenge(1, 0);
        x.days(7);
        check.refuses("in b", Dojo.UNSUPPORTED, () -> x.give(2, 0));
        check.same("honour", x.honour(2), 13);
    }

    private static void givesWithoutACopy() {
        check.words("if the member has no copy of it");
        Katacode x = Dojo.doubling(4, 1);
        Dojo.type(x, Dojo.DOUBLE);
        for (int i = 0; i < 4; i++) {
            x.submit(0, 0);
        }
        for (int i = 0; i < 4; i++) {
            x.read(2, i);
        }
        x.read(3, 1);
        x.drop(0);
        x.challenge(1, 0);
        check.refuses("who read nothing", Dojo.NO_ELEMENT, () -> x.give(1, 0));
        check.refuses("whose it is", Dojo.NO_ELEMENT, () -> x.give(0, 0));
        check.refuses("whose copy was pushed out", Dojo.NO_ELEMENT, () -> x.give(2, 0));
        check.refuses("with a copy of a like one", Dojo.NO_ELEMENT, () -> x.give(3, 0));
        check.same("still in c", x.state(0), 'c');
        x.drop(1);
        x.challenge(1, 1);
        check.same("the oldest of three", x.give(2, 1), 's');
        x.drop(3);
        x.challenge(1, 3);
        check.same("the newest of three", x.give(2, 3), 's');
    }

    private static void givesByAnyMember() {
        check.words("by a copy that a member gives");
        for (int giver = 0; giver < 3; giver++) {
            Katacode x = Dojo.doubling(3, 1);
            Dojo.submit(x, 0, 0, Dojo.DOUBLE);
            x.read(giver, 0);
            x.drop(0);
            x.challenge(1, 0);
            check.same("give", x.give(giver, 0), 's');
            check.same("honour of who gave", x.honour(giver), (giver == 1 ? 8 : 10) + 3);
        }
    }

    private static void answersInC() {
        check.words("if it is not in c, or what is typed is not whole");
        Katacode x = Dojo.doubling(3, 1);
        Dojo.submit(x, 0, 0, Dojo.SIX);
        check.refuses("in s", Dojo.UNSUPPORTED, () -> x.answer(2, 0));
        Dojo.fix(x, 0, 0, Dojo.row(3), Dojo.row(7));
        check.refuses("in f", Dojo.UNSUPPORTED, () -> x.answer(2, 0));
        Dojo.fix(x, 0, 0, Dojo.row(3), Dojo.row(6));
        x.drop(0);
        check.refuses("in p", Dojo.UNSUPPORTED, () -> x.answer(2, 0));
        x.challenge(1, 0);
        check.same("in c", x.answer(2, 0), 's');
        x.drop(0);
        x.challenge(1, 0);
        x.days(7);
        check.refuses("in b", Dojo.UNSUPPORTED, () -> x.answer(2, 0));
        check.same("honour", x.honour(2), 13);
    }

    private static void answersThatAreNotWhole() {
        check.words("or what is typed is not whole");
        Katacode x = challenged(Dojo.DOUBLE);
        for (String program : new String[] {"i d + [", "]", "i d + o ]"}) {
            Dojo.type(x, program);
            check.refuses("'" + program + "'", Dojo.UNSUPPORTED, () -> x.answer(2, 0));
        }
        check.same("still in c", x.state(0), 'c');
    }

    private static void answersByAnyMember() {
        check.words("Tells what is typed, which stays, for a work in c");
        for (int teller = 0; teller < 3; teller++) {
            Katacode x = challenged(Dojo.DOUBLE);
            check.same("answer", x.answer(teller, 0), 's');
            check.same("honour of who told", x.honour(teller), (teller == 1 ? 8 : 10) + 3);
            check.same("what is typed stays", x.wipe(), 4);
        }
    }

    private static void answersWithNothing() {
        check.words("'-' it is not the body");
        Katacode x = challenged(Dojo.DOUBLE);
        x.wipe();
        check.same("nothing", x.answer(2, 0), '-');
        check.same("still in c", x.state(0), 'c');
        check.same("no honour", x.honour(2), 10);
        check.same("still open", x.open(0), 0);
        Katacode y = new Katacode();
        y.test(y.kata(1));
        Dojo.members(y, 2);
        y.submit(0, 0);
        y.drop(0);
        y.challenge(1, 0);
        y.step('p', 0);
        check.same("a step for nothing", y.answer(0, 0), '-');
        y.wipe();
        check.same("nothing for nothing", y.answer(0, 0), 's');
    }

    private static void sumsThatAreKept() {
        check.words("A program is the body if it has the sum");
        Katacode x = challenged("n6 o n5 p");
        for (String program : new String[] {"n6 o n4 p", "n6 o n6 p", "n6 o n-5 p", "n6 o i p", "n5 p n6 o"}) {
            Dojo.type(x, program);
            check.same("'" + program + "'", x.answer(2, 0), '-');
            check.same("state", x.state(0), 'c');
        }
        x.wipe();
        x.step('n', 6);
        x.step('o', 999);
        x.step('n', 5);
        x.step('p', MIN);
        check.same("numbers of no meaning", x.answer(2, 0), 's');
    }

    private static void moreStepsThanAreKept() {
        check.words("and the number of steps that are kept");
        Katacode x = Dojo.doubling(3, 1);
        Dojo.submit(x, 0, 0, "n6 o n2 [ n1 - ] p");
        x.drop(0);
        x.challenge(1, 0);
        check.same("it has 8 steps, and does 11", x.steps(0, 0), 11);
        // Of the same sum, which wraps, with 11 steps that do 11.
        String other = "n0 p n0 p n16 n-248 n39 n-2 n71 n359 n462";
        check.same("it is of another length", other.split(" ").length, 11);
        check.same("the sum is the same", sumOf(other), x.sum(0));
        Dojo.type(x, other);
        check.same("answer", x.answer(2, 0), '-');
        check.same("state", x.state(0), 'c');
    }

    private static void fewerStepsThanAreKept() {
        check.words("and the number of steps that are kept");
        Katacode x = Dojo.doubling(3, 1);
        Dojo.submit(x, 0, 0, "n6 o" + " n0 p".repeat(7));
        x.drop(0);
        x.challenge(1, 0);
        check.same("it has 16 steps, and does 16", x.steps(0, 0), 16);
        // Of the same sum, which wraps, with 13 steps that do 16.
        String other = "n2 [ n1 - ] p n4 n-75 n-264 n-169 n267 n288 n-428";
        check.same("it is of another length", other.split(" ").length, 13);
        check.same("the sum is the same", sumOf(other), x.sum(0));
        Dojo.type(x, other);
        x.run(0, 0);
        check.same("the steps are the same", x.done(), 16);
        check.same("answer", x.answer(2, 0), '-');
        check.same("state", x.state(0), 'c');
    }

    private static long sumOf(String program) {
        long sum = 17;
        for (String step : program.split(" ")) {
            int number = step.length() > 1 ? Integer.parseInt(step.substring(1)) : 0;
            sum = (sum * 31 + step.charAt(0)) * 31 + number;
        }
        return sum;
    }

    /** Five tests, of which one has the input that tells the two programs apart. */
    private static Katacode fiveTests(int telling, int input) {
        Katacode x = new Katacode();
        x.kata(1);
        Dojo.members(x, 3);
        for (int i = 0; i < 5; i++) {
            Dojo.test(x, 0, Dojo.row(i == telling ? input : 2), Dojo.row(6));
        }
        Dojo.submit(x, 0, 0, BODY);
        x.drop(0);
        x.challenge(1, 0);
        return x;
    }

    private static void stepsOfEachTest() {
        check.words("and does as many steps as are kept in each test");
        check.same("one sum", sumOf(BODY), sumOf(LIKE_BODY));
        for (int telling = 0; telling < 5; telling++) {
            for (int input = 0; input <= 1; input++) {
                Katacode x = fiveTests(telling, input);
                Dojo.type(x, LIKE_BODY);
                check.same("more or fewer steps in test " + telling, x.answer(2, 0), '-');
                Dojo.type(x, BODY);
                check.same("as many", x.answer(2, 0), 's');
            }
        }
        Katacode x = fiveTests(5, 2);
        Dojo.type(x, LIKE_BODY);
        check.same("as many in all tests", x.answer(2, 0), 's');
    }

    private static void stepsOfTestsThatAreNew() {
        check.words("that is not new since");
        for (int telling = 0; telling < 5; telling++) {
            Katacode x = fiveTests(telling, 0);
            for (int i = 0; i < 5; i++) {
                if (i != telling) {
                    Dojo.fix(x, 0, i, Dojo.row(0), Dojo.row(6));
                }
            }
            Dojo.type(x, LIKE_BODY);
            check.same("all others are new", x.answer(2, 0), '-');
            Dojo.fix(x, 0, telling, Dojo.row(0), Dojo.row(6));
            check.same("put right to what it was, it is new", x.answer(2, 0), 's');
        }
    }

    private static void testsPutRightBeforeTheDrop() {
        check.words("A test that is added or put right is new from then on");
        Katacode x = Dojo.doubling(3, 1);
        Dojo.submit(x, 0, 0, BODY);
        Dojo.fix(x, 0, 0, Dojo.row(0), Dojo.row(6));
        x.drop(0);
        x.challenge(1, 0);
        Dojo.type(x, LIKE_BODY);
        check.same("it was put right before, and is not new", x.answer(2, 0), '-');
        Dojo.test(x, 0, Dojo.row(0), Dojo.row(6));
        check.same("an added one does not make it new", x.answer(2, 0), '-');
    }

    private static void testsAddedSince() {
        check.words("that is not new since");
        Katacode x = Dojo.doubling(3, 1);
        Dojo.fix(x, 0, 0, Dojo.row(2), Dojo.row(6));
        Dojo.submit(x, 0, 0, BODY);
        x.drop(0);
        x.challenge(1, 0);
        for (int i = 0; i < 4; i++) {
            Dojo.test(x, 0, Dojo.row(i % 2), Dojo.row(6));
        }
        Dojo.type(x, LIKE_BODY);
        check.same("added ones do not tell", x.answer(2, 0), 's');
        check.same("steps of what is the body now", x.steps(0, 1), 10);
    }

    private static void newSinceTheLastDrop() {
        check.words("that is not new since");
        Katacode x = Dojo.doubling(3, 1);
        Dojo.submit(x, 0, 0, BODY);
        x.drop(0);
        Dojo.fix(x, 0, 0, Dojo.row(0), Dojo.row(6));
        x.challenge(1, 0);
        Dojo.type(x, BODY);
        check.same("the body", x.answer(2, 0), 's');
        x.drop(0);
        x.challenge(1, 0);
        Dojo.type(x, LIKE_BODY);
        check.same("the steps of the second drop tell", x.answer(2, 0), '-');
    }

    private static void standsByItsBody() {
        check.words("in 's' who gave it, or told it, gets 3 honour");
        Katacode x = challenged(Dojo.DOUBLE);
        check.same("answer", x.answer(2, 0), 's');
        check.same("state", x.state(0), 's');
        check.same("body", x.hasBody(0), true);
        check.same("honour of who told", x.honour(2), 13);
        check.same("honour of who challenged", x.honour(1), 8);
        check.same("honour of the owner", x.honour(0), 10);
        check.refuses("none is open", Dojo.NO_ELEMENT, () -> x.open(0));
        check.same("days break nothing", x.days(30), 0);
    }

    private static void fallsByItsBody() {
        check.words("in 'f' the one who challenged gets 5, and the work is broken, without a body");
        Katacode x = challenged(Dojo.SIX);
        Dojo.fix(x, 0, 0, Dojo.row(3), Dojo.row(7));
        Dojo.type(x, Dojo.SIX);
        check.same("answer", x.answer(2, 0), 'b');
        check.same("state", x.state(0), 'b');
        check.same("body", x.hasBody(0), false);
        check.same("bodies", x.bodies(), 0);
        check.same("honour of who told", x.honour(2), 10);
        check.same("honour of who challenged", x.honour(1), 13);
        check.same("honour of the owner", x.honour(0), 10);
        check.refuses("none is open", Dojo.NO_ELEMENT, () -> x.open(0));
        check.same("days break nothing", x.days(30), 0);
        check.same("honour stays", x.honour(1), 13);
    }

    private static void fallsByWhoChallenged() {
        check.words("in 'f' the one who challenged gets 5");
        Katacode x = Dojo.doubling(2, 1);
        Dojo.submit(x, 0, 0, Dojo.SIX);
        x.read(1, 0);
        x.drop(0);
        Dojo.fix(x, 0, 0, Dojo.row(3), Dojo.row(7));
        x.challenge(1, 0);
        check.same("give of who challenged", x.give(1, 0), 'b');
        check.same("5, and not 3", x.honour(1), 13);
    }

    private static void passesTheTestsAsTheyAreNow() {
        check.words("in 's' or 'f' as the tests are now");
        Katacode x = challenged(Dojo.SIX);
        Dojo.fix(x, 0, 0, Dojo.row(3), Dojo.row(7));
        Dojo.fix(x, 0, 0, Dojo.row(8), Dojo.row(6));
        Dojo.type(x, Dojo.SIX);
        check.same("put wrong and right again", x.answer(2, 0), 's');
        Katacode y = challenged(Dojo.SIX);
        for (int i = 0; i < 4; i++) {
            Dojo.test(y, 0, Dojo.row(8), Dojo.row(i == 3 ? 7 : 6));
        }
        Dojo.type(y, Dojo.SIX);
        check.same("the last of five", y.answer(2, 0), 'b');
    }

    private static void droppedAgainAtOnce() {
        check.words("'s' the work stands, also if it is dropped again at once");
        for (boolean isGiven : new boolean[] {false, true}) {
            Katacode x = Dojo.doubling(3, 1);
            x.capacity(1);
            Dojo.submit(x, 0, 0, Dojo.DOUBLE);
            x.read(2, 0);
            x.drop(0);
            x.submit(0, 0);
            x.vote(1, 1, 1);
            x.challenge(1, 0);
            check.same("it stands", isGiven ? x.give(2, 0) : x.answer(2, 0), 's');
            check.same("dropped again", x.state(0), 'p');
            check.same("without a body", x.hasBody(0), false);
            check.same("the other has its body", x.state(1), 's');
            check.same("honour", x.honour(2), 13);
            check.same("it can be challenged again", x.challenge(1, 0), 1);
            check.same("for 7 days", x.left(0), 7);
            check.same("isSound", x.isSound(), true);
        }
    }

    private static void roomForABodyThatIsBack() {
        check.words("and room is made as ever");
        Katacode x = Dojo.doubling(3, 1);
        x.capacity(2);
        Dojo.submit(x, 0, 0, Dojo.DOUBLE);
        x.vote(1, 0, 5);
        x.drop(0);
        Dojo.submit(x, 0, 0, Dojo.DOUBLE);
        Dojo.submit(x, 0, 0, Dojo.SIX);
        x.vote(1, 2, 5);
        x.vote(2, 2, 5);
        Dojo.fix(x, 0, 0, Dojo.row(1), Dojo.row(2));
        x.challenge(1, 0);
        Dojo.type(x, Dojo.DOUBLE);
        check.same("it stands", x.answer(2, 0), 's');
        check.same("the one in f is dropped, and broken", x.state(2), 'b');
        check.same("it has its body", x.state(0), 's');
        check.same("the other has its body", x.state(1), 's');
        x.drop(0);
        Dojo.submit(x, 0, 0, Dojo.DOUBLE);
        x.challenge(1, 0);
        check.same("it stands again", x.answer(2, 0), 's');
        check.same("the least weights, and the lowest number", x.state(1), 'p');
        check.same("the other", x.state(3), 's');
    }

    private static void roomForABodyThatFalls() {
        check.words("and the work is broken, without a body");
        Katacode x = Dojo.doubling(3, 1);
        x.capacity(2);
        Dojo.submit(x, 0, 0, Dojo.SIX);
        x.drop(0);
        for (int i = 0; i < 2; i++) {
            Dojo.submit(x, 0, 0, Dojo.DOUBLE);
        }
        x.challenge(1, 0);
        Dojo.fix(x, 0, 0, Dojo.row(1), Dojo.row(2));
        Dojo.type(x, Dojo.SIX);
        check.same("it falls", x.answer(2, 0), 'b');
        check.same("no other loses its body", x.bodies(), 2);
        check.same("honour of who challenged, once", x.honour(1), 13);
        x.drop(1);
        check.same("with room to spare", x.bodies(), 1);
    }

    private static void closedForGood() {
        check.words("A challenge is closed by the body");
        Katacode x = Dojo.doubling(3, 1);
        Dojo.submit(x, 0, 0, Dojo.DOUBLE);
        x.read(2, 0);
        x.drop(0);
        x.challenge(1, 0);
        x.days(6);
        check.same("on the last day", x.give(2, 0), 's');
        check.refuses("give again", Dojo.UNSUPPORTED, () -> x.give(2, 0));
        check.refuses("answer again", Dojo.UNSUPPORTED, () -> x.answer(2, 0));
        x.drop(0);
        check.same("a day later", x.days(1), 0);
        x.challenge(1, 0);
        check.same("another challenge has 7 days", x.left(0), 7);
        check.same("of which one goes by", x.days(1), 0);
        check.same("left", x.left(0), 6);
    }

    private static void daysInRange() {
        check.words("how many, 1 to 30");
        for (int days : new int[] {1, 2, 29, 30}) {
            check.same("days(" + days + ")", new Katacode().days(days), 0);
        }
        Katacode x = challenged(Dojo.DOUBLE);
        check.same("30 days are more than 7", x.days(30), 1);
    }

    private static void daysOutOfRange() {
        check.words("if it is out of range");
        Katacode x = challenged(Dojo.DOUBLE);
        for (int days : new int[] {0, 31, -1, MIN, MAX}) {
            check.refuses("days(" + days + ")", Dojo.ARGUMENT, () -> x.days(days));
        }
        check.same("no day went by", x.left(0), 7);
        check.same("state", x.state(0), 'c');
    }

    private static void openForSevenDays() {
        check.words("A challenge that was open for 7 days breaks the work, and the one who challenged gets 5");
        for (int days = 1; days <= 8; days++) {
            Katacode x = challenged(Dojo.DOUBLE);
            check.same("broken by " + days, x.days(days), days < 7 ? 0 : 1);
            check.same("state", x.state(0), days < 7 ? 'c' : 'b');
            check.same("honour", x.honour(1), days < 7 ? 8 : 13);
            check.same("honour of others", x.honour(0) + x.honour(2), 20);
            if (days < 7) {
                check.same("left", x.left(0), 7 - days);
                check.same("it can be answered", x.answer(2, 0), 's');
            } else {
                check.refuses("none is open", Dojo.NO_ELEMENT, () -> x.open(0));
                check.same("it is broken once", x.days(30), 0);
            }
            check.same("isSound", x.isSound(), true);
        }
    }

    private static void sevenTimesOneDay() {
        check.words("Returns how many works are broken by that");
        Katacode x = challenged(Dojo.DOUBLE);
        for (int left = 7; left >= 1; left--) {
            check.same("left", x.left(0), left);
            check.same("days(1)", x.days(1), left == 1 ? 1 : 0);
        }
        check.same("state", x.state(0), 'b');
        check.same("honour", x.honour(1), 13);
    }

    private static void eightAreOverAtOnce() {
        check.words("Returns how many works are broken by that");
        Katacode x = proved(9, 3, Dojo.DOUBLE);
        for (int i = 0; i < 8; i++) {
            x.challenge(1 + i % 2, i);
        }
        check.same("days", x.days(7), 8);
        for (int i = 0; i < 8; i++) {
            check.same("state of " + i, x.state(i), 'b');
        }
        check.same("one that nobody challenged", x.state(8), 'p');
        check.same("honour of one", x.honour(1), 10 - 8 + 20);
        check.same("honour of the other", x.honour(2), 10 - 8 + 20);
        check.refuses("none is open", Dojo.NO_ELEMENT, () -> x.open(0));
    }

    private static void sevenDaysEach() {
        check.words("A challenge that was open for 7 days");
        Katacode x = proved(8, 3, Dojo.DOUBLE);
        for (int i = 0; i < 8; i++) {
            x.challenge(1 + i % 2, i);
            check.same("a day", x.days(1), i >= 6 ? 1 : 0);
        }
        check.same("the first is over", x.state(0), 'b');
        check.same("the second too", x.state(1), 'b');
        check.same("the third is not", x.left(2), 1);
        check.same("the last has the most", x.left(7), 6);
        check.same("four more days", x.days(4), 4);
        check.same("the rest", x.days(30), 2);
    }

    private static void openOfNone() {
        check.words("Throws NoSuchElementException if there is none");
        Katacode x = proved(9, 3, Dojo.DOUBLE);
        for (int count = 0; count <= 8; count++) {
            for (int index : new int[] {-1, count, count + 1, MIN, MAX}) {
                check.refuses("open(" + index + ") of " + count, Dojo.NO_ELEMENT, () -> x.open(index));
            }
            if (count < 8) {
                x.challenge(1 + count % 2, count);
                check.same("the last", x.open(count), count);
            }
        }
    }

    private static void open(Katacode x, int... due) {
        for (int i = 0; i < due.length; i++) {
            check.same("open(" + i + ")", x.open(i), due[i]);
        }
        check.refuses("no more", Dojo.NO_ELEMENT, () -> x.open(due.length));
    }

    private static void openByTheOrderOfTheirEnd() {
        check.words("the one that will be over first, of several the one told first");
        Katacode x = proved(6, 3, Dojo.DOUBLE);
        x.challenge(2, 4);
        x.challenge(1, 2);
        x.challenge(2, 5);
        open(x, 4, 2, 5);
        x.days(1);
        x.challenge(1, 3);
        x.challenge(1, 0);
        open(x, 4, 2, 5, 3, 0);
        x.days(5);
        x.challenge(2, 1);
        open(x, 4, 2, 5, 3, 0, 1);
        x.days(1);
        open(x, 3, 0, 1);
        x.days(1);
        open(x, 1);
        x.days(5);
        open(x);
    }

    private static void openOnesThatClose() {
        check.words("Returns an open challenge");
        Katacode x = proved(5, 3, Dojo.DOUBLE);
        for (int i = 0; i < 5; i++) {
            x.challenge(1, i);
        }
        x.answer(2, 0);
        open(x, 1, 2, 3, 4);
        x.answer(2, 4);
        open(x, 1, 2, 3);
        x.answer(2, 2);
        open(x, 1, 3);
        x.drop(0);
        x.challenge(2, 0);
        open(x, 1, 3, 0);
        x.answer(2, 1);
        x.answer(2, 3);
        x.answer(2, 0);
        open(x);
        check.same("isSound", x.isSound(), true);
    }

    private static void leftInC() {
        check.words("Returns the days, 1 to 7");
        Katacode x = Dojo.doubling(3, 1);
        Dojo.submit(x, 0, 0, Dojo.DOUBLE);
        check.refuses("in s", Dojo.UNSUPPORTED, () -> x.left(0));
        Dojo.fix(x, 0, 0, Dojo.row(3), Dojo.row(7));
        check.refuses("in f", Dojo.UNSUPPORTED, () -> x.left(0));
        Dojo.fix(x, 0, 0, Dojo.row(3), Dojo.row(6));
        x.drop(0);
        check.refuses("in p", Dojo.UNSUPPORTED, () -> x.left(0));
        x.days(3);
        x.challenge(1, 0);
        check.same("the first", x.left(0), 7);
        x.days(6);
        check.same("the last", x.left(0), 1);
        x.days(1);
        check.refuses("in b", Dojo.UNSUPPORTED, () -> x.left(0));
    }
}
