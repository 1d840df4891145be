/** The boundary cases of 'Works', and of promises 15 to 23: members, what they submit, and what is told of a work. */
public final class BoundsOfWorksTest {
    private static final Check check = new Check("BoundsOfWorksTest");
    private static final int MIN = Integer.MIN_VALUE;
    private static final int MAX = Integer.MAX_VALUE;
    private static final String[] OF_MEMBERS = {"submit", "read", "copy", "vote", "review", "best", "points", "belt",
        "honour", "challenge", "give", "answer"};
    private static final String[] OF_WORKS = {"of", "state", "sum", "steps", "hasBody", "letter", "drop", "style", "left",
        "meanSteps"};
    private static final String[] OF_MEMBERS_AND_WORKS = {"read", "vote", "challenge", "give", "answer"};

    public static void main(String[] args) {
        tenMembers();
        noSuchMember();
        noSuchWork();
        noSuchKataToSubmitFor();
        oneTestOrMore();
        programsThatAreNotWhole();
        passesAllTests();
        endsWithO();
        whatIsTypedStays();
        fortyWorks();
        worksThatDoNotPass();
        numbersOfWorks();
        noSuchThing();
        votesOfNone();
        sumAtFirst();
        sumThatWraps();
        sumIsKept();
        passesOrDoesNot();
        droppedOnes();
        challengedOnes();
        brokenForGood();
        whatCounts();
        stepsOfNoSuchTest();
        stepsOfEachTest();
        stepsOfTestsPutRight();
        stepsAddedBehindTheDrop();
        stepsAddedBehindTheBreak();
        stepsAddedBehindTheBreakByItsBody();
        stepsThatTheDaysLeave();
        hasItsBody();
        lettersOfABody();
        check.finish();
    }

    private static void tenMembers() {
        check.words("A member, at most 10, numbered from 0");
        Katacode x = new Katacode();
        for (int i = 0; i < 10; i++) {
            int next = i;
            check.refuses("honour(" + i + ") before", Dojo.INDEX, () -> x.honour(next));
            check.same("member", x.member(), i);
            check.same("honour at first", x.honour(i), 10);
        }
        check.refuses("member 11", Dojo.STATE, x::member);
        check.refuses("honour(10)", Dojo.INDEX, () -> x.honour(10));
        check.same("checksum of 10", x.checksum(), checksumOfMembers(10));
    }

    private static long checksumOfMembers(int count) {
        long sum = 7;
        for (int i = 0; i < count; i++) {
            sum = sum * 31 + 10;
        }
        return sum;
    }

    private static void noSuchMember() {
        check.words("if there is no such member");
        for (int members : new int[] {0, 1, 10}) {
            Katacode x = Dojo.doubling(members, 1);
            Dojo.type(x, Dojo.DOUBLE);
            if (members > 0) {
                x.submit(0, 0);
            }
            for (String name : OF_MEMBERS) {
                for (int member : new int[] {-1, members, members + 1, MIN, MAX}) {
                    check.refuses(name + " of member " + member + " of " + members, Dojo.INDEX,
                        () -> Caller.call(x, name, member, 0, 1));
                }
            }
        }
    }

    private static void noSuchWork() {
        check.words("if there is no such work");
        for (int works : new int[] {0, 1, 40}) {
            Katacode x = Dojo.doubling(2, 1);
            Dojo.type(x, Dojo.DOUBLE);
            for (int i = 0; i < works; i++) {
                x.submit(0, 0);
            }
            for (int work : new int[] {-1, works, works + 1, MIN, MAX}) {
                for (String name : OF_WORKS) {
                    check.refuses(name + " of work " + work + " of " + works, Dojo.INDEX,
                        () -> Caller.call(x, name, work, 0, 0));
                }
                for (String name : OF_MEMBERS_AND_WORKS) {
                    check.refuses(name + " of work " + work + " of " + works, Dojo.INDEX,
                        () -> Caller.call(x, name, 1, work, 1));
                }
            }
            if (works > 0) {
                check.same("the last one", x.state(works - 1), 's');
                check.same("a vote for it", x.vote(1, works - 1, 1), 1);
            }
        }
    }

    private static void noSuchKataToSubmitFor() {
        check.words("if there is no such member or kata");
        Katacode x = new Katacode();
        x.member();
        check.refuses("without katas", Dojo.INDEX, () -> x.submit(0, 0));
        x.kata(1);
        x.test(0);
        for (int kata : new int[] {-1, 1, 7, 8, MIN, MAX}) {
            check.refuses("kata " + kata, Dojo.INDEX, () -> x.submit(0, kata));
        }
        check.same("the first", x.submit(0, 0), 0);
        for (int kata = 1; kata < 8; kata++) {
            x.kata(1);
            x.test(kata);
        }
        check.refuses("kata 8 of 8", Dojo.INDEX, () -> x.submit(0, 8));
        check.same("the last", x.submit(0, 7), 1);
        check.same("its kata", x.of(1, 'k'), 7);
    }

    private static void oneTestOrMore() {
        check.words("of which there has to be one or more");
        Katacode x = new Katacode();
        x.kata(1);
        x.member();
        check.refuses("without a test", Dojo.UNSUPPORTED, () -> x.submit(0, 0));
        Dojo.type(x, Dojo.SIX);
        check.refuses("a program without a test", Dojo.UNSUPPORTED, () -> x.submit(0, 0));
        check.same("works", x.works(), 0);
        Dojo.test(x, 0, Dojo.NO_NUMBERS, Dojo.row(6));
        check.same("with one", x.submit(0, 0), 0);
        for (int i = 2; i <= 5; i++) {
            Dojo.test(x, 0, Dojo.NO_NUMBERS, Dojo.row(6));
            check.same("with " + i, x.submit(0, 0), i - 1);
        }
    }

    private static void programsThatAreNotWhole() {
        check.words("if it is not whole, or the kata has no test");
        Katacode x = Dojo.doubling(1, 1);
        Dojo.type(x, "n6 o [");
        check.refuses("with a '[' left", Dojo.UNSUPPORTED, () -> x.submit(0, 0));
        Dojo.type(x, "n6 o n0 ]");
        check.refuses("with a ']' alone", Dojo.UNSUPPORTED, () -> x.submit(0, 0));
        check.same("works", x.works(), 0);
        Dojo.type(x, "n6 o n0 [ ]");
        check.same("a whole one", x.submit(0, 0), 0);
        x.wipe();
        x.test(x.kata(1));
        check.same("nothing is whole", x.submit(0, 1), 1);
    }

    private static void passesAllTests() {
        check.words("if it ends with 'o' in all tests");
        for (int wrong = 0; wrong < 5; wrong++) {
            Katacode x = new Katacode();
            x.kata(1);
            x.member();
            for (int i = 0; i < 5; i++) {
                Dojo.test(x, 0, Dojo.row(i), Dojo.row(i == wrong ? 99 : 2 * i));
            }
            check.same("it fails by test " + wrong + " of 5", Dojo.submit(x, 0, 0, Dojo.DOUBLE), -1);
            check.same("works", x.works(), 0);
            Dojo.fix(x, 0, wrong, Dojo.row(wrong), Dojo.row(2 * wrong));
            check.same("it passes all 5", x.submit(0, 0), 0);
        }
    }

    private static void endsWithO() {
        check.words("Returns the number of the work, -1 if it does not pass all tests");
        String[] programs = {"n7 o", "n6 o n0 o", "", "n6 o +", "n6 o i i", "n6 o n0 d %", "n6 o n1 [ d ]",
            "n6 d d d d d d o o o o o o o", "n6 o n1 [ ]"};
        char[] ends = {'w', 'w', 'w', 'u', 'e', 'z', 'v', 'l', 't'};
        Katacode x = Dojo.doubling(1, 1);
        for (int i = 0; i < programs.length; i++) {
            check.same("run of '" + programs[i] + "'", Dojo.run(x, 0, 0, programs[i]), ends[i]);
            check.same("submit of '" + programs[i] + "'", x.submit(0, 0), -1);
        }
        check.same("works", x.works(), 0);
        check.same("bodies", x.bodies(), 0);
        check.same("one that passes", Dojo.submit(x, 0, 0, "n6 o"), 0);
    }

    private static void whatIsTypedStays() {
        check.words("Submits what is typed, which stays");
        Katacode x = Dojo.doubling(2, 1, 1);
        check.same("one that passes", Dojo.submit(x, 0, 0, Dojo.DOUBLE), 0);
        check.same("again", x.submit(0, 0), 1);
        check.same("by another for another", x.submit(1, 1), 2);
        check.same("wipe", x.wipe(), 4);
        check.same("the body stays without it", x.letter(0, 3), 'o');
        check.same("one that does not pass", Dojo.submit(x, 0, 0, "n1 o"), -1);
        check.same("wipe", x.wipe(), 2);
    }

    private static void fortyWorks() {
        check.words("if there are 40 works, whether or not it passes");
        Katacode x = Dojo.doubling(10, 1);
        Dojo.type(x, Dojo.DOUBLE);
        for (int i = 0; i < 40; i++) {
            check.same("works before", x.works(), i);
            check.same("work", x.submit(i % 10, 0), i);
        }
        check.refuses("work 41", Dojo.STATE, () -> x.submit(0, 0));
        Dojo.type(x, "n1 o");
        check.refuses("work 41 that does not pass", Dojo.STATE, () -> x.submit(0, 0));
        check.same("works", x.works(), 40);
        check.same("the last is of its member", x.of(39, 'm'), 9);
        x.drop(39);
        check.refuses("though one was dropped", Dojo.STATE, () -> x.submit(0, 0));
    }

    private static void worksThatDoNotPass() {
        check.words("it is a work, at most 40");
        Katacode x = Dojo.doubling(1, 1);
        Dojo.type(x, Dojo.DOUBLE);
        for (int i = 0; i < 39; i++) {
            x.submit(0, 0);
        }
        Dojo.type(x, "n1 o");
        for (int i = 0; i < 3; i++) {
            check.same("one that does not pass is no work", x.submit(0, 0), -1);
        }
        check.same("the last one", Dojo.submit(x, 0, 0, Dojo.DOUBLE), 39);
    }

    private static void numbersOfWorks() {
        check.words("'m' the member, 'k' the kata, 'n' how many steps the program has");
        Katacode x = Dojo.doubling(10, 1, 1, 1, 1, 1, 1, 1, 1);
        x.wipe();
        x.fix(0, 0);
        check.same("a work of nothing", x.submit(0, 0), 0);
        check.same("a work of 24 steps", Dojo.submit(x, 9, 7, "n6 o" + " n0 p".repeat(11)), 1);
        check.same("the first member", x.of(0, 'm'), 0);
        check.same("the last member", x.of(1, 'm'), 9);
        check.same("the first kata", x.of(0, 'k'), 0);
        check.same("the last kata", x.of(1, 'k'), 7);
        check.same("no steps", x.of(0, 'n'), 0);
        check.same("24 steps", x.of(1, 'n'), 24);
        x.drop(1);
        check.same("24 steps without a body", x.of(1, 'n'), 24);
        check.same("the member without a body", x.of(1, 'm'), 9);
    }

    private static void noSuchThing() {
        check.words("if there is no such thing");
        int refused = 0;
        Katacode x = null;
        for (int what = 0; what <= Character.MAX_VALUE; what++) {
            if (x == null || what % 400 == 0) {
                x = Dojo.doubling(1, 1);
                Dojo.submit(x, 0, 0, Dojo.DOUBLE);
            }
            refused += "mknvw".indexOf(what) < 0 && isThingRefused(x, (char) what) ? 1 : 0;
        }
        check.same("things that there are not", refused, Character.MAX_VALUE + 1 - 5);
    }

    private static boolean isThingRefused(Katacode x, char what) {
        try {
            x.of(0, what);
            return false;
        } catch (IllegalArgumentException e) {
            return true;
        }
    }

    private static void votesOfNone() {
        check.words("'v' how many votes, 'w' the sum of their weights");
        Katacode x = Dojo.doubling(10, 1);
        Dojo.submit(x, 0, 0, Dojo.DOUBLE);
        check.same("votes of none", x.of(0, 'v'), 0);
        check.same("weights of none", x.of(0, 'w'), 0);
        for (int member = 1; member < 10; member++) {
            x.vote(member, 0, 5);
            check.same("votes", x.of(0, 'v'), member);
            check.same("weights", x.of(0, 'w'), member);
        }
        x.vote(9, 0, 1);
        check.same("a vote that is changed", x.of(0, 'v'), 9);
        x.drop(0);
        check.same("votes without a body", x.of(0, 'v'), 9);
        check.same("weights without a body", x.of(0, 'w'), 9);
    }

    private static long sum(long sum, int... parts) {
        for (int part : parts) {
            sum = sum * 31 + part;
        }
        return sum;
    }

    private static void sumAtFirst() {
        check.words("Its sum is 17 at first, then for each step 31 times itself plus the letter");
        Katacode x = Dojo.doubling(1, 1);
        x.fix(0, 0);
        check.same("a work of nothing", Dojo.submit(x, 0, 0, ""), 0);
        check.same("its sum", x.sum(0), 17L);
        Dojo.submit(x, 0, 0, "n999");
        check.same("of one step", x.sum(1), (17L * 31 + 110) * 31 + 999);
        Dojo.submit(x, 0, 0, "n-999");
        check.same("of one step with a number below 0", x.sum(2), (17L * 31 + 110) * 31 - 999);
        x.wipe();
        x.step('n', 5);
        x.step('p', 999);
        check.same("a step with a number of no meaning", x.submit(0, 0), 3);
        check.same("its sum", x.sum(3), sum(17, 'n', 5, 'p', 0));
    }

    private static void sumThatWraps() {
        check.words("as a long");
        Katacode x = Dojo.doubling(1, 1);
        long due = sum(17, 'n', 6, 'o', 0);
        StringBuilder program = new StringBuilder("n6 o");
        for (int i = 0; i < 12; i++) {
            check.same("a work of " + (2 + 2 * i), Dojo.submit(x, 0, 0, program.toString()), i);
            check.same("its sum", x.sum(i), due);
            due = sum(due, 'n', i - 999, 'p', 0);
            program.append(" n").append(i - 999).append(" p");
        }
        check.same("it is more than an int from 3 steps on", x.sum(1) > MAX, true);
        check.same("it wraps to below 0", x.sum(2) < 0 || x.sum(3) < 0 || x.sum(4) < 0 || x.sum(5) < 0, true);
    }

    private static void sumIsKept() {
        check.words("what is kept is its sum, how many steps the program has");
        Katacode x = Dojo.doubling(2, 1);
        Dojo.submit(x, 0, 0, Dojo.SIX);
        long due = sum(17, 'n', 6, 'o', 0);
        x.drop(0);
        check.same("in p", x.sum(0), due);
        x.challenge(1, 0);
        check.same("in c", x.sum(0), due);
        x.days(7);
        check.same("in b", x.sum(0), due);
        check.same("steps in b", x.of(0, 'n'), 2);
    }

    private static void passesOrDoesNot() {
        check.words("'s' its body passes all tests of the kata as they are now, 'f' it does not");
        Katacode x = Dojo.doubling(1, 1);
        Dojo.submit(x, 0, 0, Dojo.DOUBLE);
        check.same("at first", x.state(0), 's');
        for (int i = 1; i < 5; i++) {
            Dojo.test(x, 0, Dojo.row(i), Dojo.row(2 * i));
            check.same("with one more that it passes", x.state(0), 's');
        }
        for (int i = 0; i < 5; i++) {
            Dojo.fix(x, 0, i, Dojo.row(i), Dojo.row(99));
            check.same("test " + i + " does not pass", x.state(0), 'f');
        }
        for (int i = 0; i < 5; i++) {
            Dojo.fix(x, 0, i, Dojo.row(i), Dojo.row(2 * i));
            check.same("those up to " + i + " pass", x.state(0), i == 4 ? 's' : 'f');
        }
        Dojo.fix(x, 0, 0, Dojo.NO_NUMBERS, Dojo.NO_NUMBERS);
        check.same("one with an error does not pass", x.state(0), 'f');
    }

    private static void droppedOnes() {
        check.words("'p' it was dropped, and stands on its proof");
        Katacode x = Dojo.doubling(2, 1);
        Dojo.submit(x, 0, 0, Dojo.SIX);
        x.drop(0);
        check.same("dropped", x.state(0), 'p');
        Dojo.test(x, 0, Dojo.row(1), Dojo.row(2));
        check.same("whatever tests are added", x.state(0), 'p');
        Dojo.fix(x, 0, 0, Dojo.row(3), Dojo.row(7));
        check.same("or put right", x.state(0), 'p');
        x.days(30);
        check.same("however long", x.state(0), 'p');
    }

    private static void challengedOnes() {
        check.words("'c' likewise, and a challenge of it is open");
        Katacode x = Dojo.doubling(2, 1);
        Dojo.submit(x, 0, 0, Dojo.SIX);
        x.drop(0);
        x.challenge(1, 0);
        check.same("challenged", x.state(0), 'c');
        Dojo.test(x, 0, Dojo.row(1), Dojo.row(2));
        check.same("whatever tests are added", x.state(0), 'c');
        x.days(6);
        check.same("up to the last day", x.state(0), 'c');
        x.days(1);
        check.same("broken by the days", x.state(0), 'b');
    }

    private static void brokenForGood() {
        check.words("'b' it is broken, for good");
        Katacode x = Dojo.doubling(3, 1);
        Dojo.submit(x, 0, 0, Dojo.DOUBLE);
        Dojo.submit(x, 0, 0, Dojo.DOUBLE);
        x.read(2, 0);
        x.drop(1);
        x.challenge(1, 1);
        x.days(7);
        Dojo.fix(x, 0, 0, Dojo.row(3), Dojo.row(7));
        x.drop(0);
        Dojo.fix(x, 0, 0, Dojo.row(3), Dojo.row(6));
        Dojo.type(x, Dojo.DOUBLE);
        for (int work = 0; work < 2; work++) {
            int broken = work;
            check.same("by a drop in f, by the days", x.state(work), 'b');
            check.refuses("challenge", Dojo.UNSUPPORTED, () -> x.challenge(1, broken));
            check.refuses("give", Dojo.UNSUPPORTED, () -> x.give(2, broken));
            check.refuses("answer", Dojo.UNSUPPORTED, () -> x.answer(0, broken));
            check.refuses("drop", Dojo.UNSUPPORTED, () -> x.drop(broken));
            check.refuses("vote", Dojo.UNSUPPORTED, () -> x.vote(1, broken, 1));
            check.refuses("read", Dojo.NO_ELEMENT, () -> x.read(1, broken));
        }
        check.same("the same program is another work", x.submit(0, 0), 2);
        x.capacity(40);
        x.days(30);
        check.same("still broken", x.state(0) == 'b' && x.state(1) == 'b', true);
    }

    private static void whatCounts() {
        check.words("Works count if they are in 's', 'p' or 'c'");
        Katacode x = Dojo.doubling(2, 1);
        Dojo.submit(x, 0, 0, Dojo.SIX);
        check.same("in s", x.best(0, 0), 0);
        Dojo.fix(x, 0, 0, Dojo.row(3), Dojo.row(7));
        check.refuses("in f", Dojo.NO_ELEMENT, () -> x.best(0, 0));
        Dojo.fix(x, 0, 0, Dojo.row(3), Dojo.row(6));
        x.drop(0);
        check.same("in p", x.best(0, 0), 0);
        x.challenge(1, 0);
        check.same("in c", x.best(0, 0), 0);
        x.days(7);
        check.refuses("in b", Dojo.NO_ELEMENT, () -> x.best(0, 0));
    }

    private static void stepsOfNoSuchTest() {
        check.words("if there is no such work or test");
        Katacode x = Dojo.doubling(1, 1, 1);
        Dojo.test(x, 0, Dojo.row(1), Dojo.row(2));
        Dojo.submit(x, 0, 1, Dojo.DOUBLE);
        check.same("the only test of its kata", x.steps(0, 0), 4);
        for (int test : new int[] {-1, 1, 2, 4, 5, MIN, MAX}) {
            check.refuses("test " + test, Dojo.INDEX, () -> x.steps(0, test));
        }
        x.drop(0);
        for (int test : new int[] {-1, 1, 2, 4, 5, MIN, MAX}) {
            check.refuses("test " + test + " without a body", Dojo.INDEX, () -> x.steps(0, test));
        }
        Dojo.fix(x, 1, 0, Dojo.row(1), Dojo.row(1));
        check.same("the only test without a body", x.steps(0, 0), 4);
    }

    /** Takes 4 steps, and 3 for each of the input. */
    private static final String BY_INPUT = "n6 o i [ n1 - ]";

    private static Katacode counting() {
        Katacode x = new Katacode();
        x.kata(1);
        Dojo.members(x, 3);
        for (int i = 0; i < 5; i++) {
            Dojo.test(x, 0, Dojo.row(i + 1), Dojo.row(6));
        }
        Dojo.submit(x, 0, 0, BY_INPUT);
        return x;
    }

    private static void stepsOfEachTest() {
        check.words("for each test of the kata, as it is then, how many steps its run does");
        Katacode x = counting();
        for (int i = 0; i < 5; i++) {
            check.same("steps of test " + i, x.steps(0, i), 7 + 3 * i);
        }
        x.drop(0);
        for (int i = 0; i < 5; i++) {
            check.same("steps that are kept of test " + i, x.steps(0, i), 7 + 3 * i);
        }
        check.refuses("test 5 of 5", Dojo.INDEX, () -> x.steps(0, 5));
        Katacode y = Dojo.doubling(1, 1);
        y.fix(0, 0);
        Dojo.submit(y, 0, 0, "");
        check.same("no steps at all", y.steps(0, 0), 0);
        Dojo.fix(y, 0, 0, Dojo.NO_NUMBERS, Dojo.NO_NUMBERS);
        Dojo.submit(y, 0, 0, "n99 [ n1 - ] p");
        check.same("300 steps", y.steps(1, 0), 300);
    }

    private static void stepsOfTestsPutRight() {
        check.words("also of a test that was put right since");
        Katacode x = counting();
        Dojo.fix(x, 0, 2, Dojo.row(9), Dojo.row(6));
        check.same("with a body, as it is now", x.steps(0, 2), 4 + 27);
        x.drop(0);
        for (int i = 0; i < 5; i++) {
            Dojo.fix(x, 0, i, Dojo.row(20), Dojo.row(1));
        }
        check.same("without, as it was then", x.steps(0, 2), 4 + 27);
        check.same("the first", x.steps(0, 0), 7);
        check.same("the last", x.steps(0, 4), 19);
    }

    private static void stepsAddedBehindTheDrop() {
        check.words("if the test was added behind that");
        Katacode x = Dojo.doubling(1, 1);
        Dojo.submit(x, 0, 0, BY_INPUT);
        Dojo.test(x, 0, Dojo.row(1), Dojo.row(6));
        x.drop(0);
        check.same("the last one before", x.steps(0, 1), 7);
        check.refuses("no test yet", Dojo.INDEX, () -> x.steps(0, 2));
        for (int test = 2; test < 5; test++) {
            int added = test;
            Dojo.test(x, 0, Dojo.row(1), Dojo.row(6));
            check.refuses("test " + test + " behind it", Dojo.NO_ELEMENT, () -> x.steps(0, added));
        }
        Dojo.fix(x, 0, 2, Dojo.row(1), Dojo.row(6));
        check.refuses("put right it is still behind it", Dojo.NO_ELEMENT, () -> x.steps(0, 2));
        check.same("the first", x.steps(0, 0), 13);
    }

    private static void stepsAddedBehindTheBreak() {
        check.words("or did as the work was dropped or broken");
        Katacode x = Dojo.doubling(1, 1);
        Dojo.submit(x, 0, 0, BY_INPUT);
        Dojo.test(x, 0, Dojo.row(2), Dojo.row(1));
        check.same("steps in f", x.steps(0, 1), 10);
        x.drop(0);
        check.same("steps in b", x.steps(0, 1), 10);
        Dojo.test(x, 0, Dojo.row(2), Dojo.row(1));
        check.refuses("behind the break", Dojo.NO_ELEMENT, () -> x.steps(0, 2));
        check.same("isSound", x.isSound(), true);
    }

    private static void stepsAddedBehindTheBreakByItsBody() {
        check.words("or did as the work was dropped or broken");
        Katacode x = Dojo.doubling(2, 1);
        Dojo.submit(x, 0, 0, BY_INPUT);
        x.drop(0);
        Dojo.test(x, 0, Dojo.row(2), Dojo.row(1));
        x.challenge(1, 0);
        check.refuses("behind the drop", Dojo.NO_ELEMENT, () -> x.steps(0, 1));
        check.same("broken", x.answer(0, 0), 'b');
        check.same("before the break", x.steps(0, 1), 10);
        Dojo.test(x, 0, Dojo.row(2), Dojo.row(1));
        check.refuses("behind the break", Dojo.NO_ELEMENT, () -> x.steps(0, 2));
    }

    private static void stepsThatTheDaysLeave() {
        check.words("or did as the work was dropped or broken");
        Katacode x = Dojo.doubling(2, 1);
        Dojo.submit(x, 0, 0, BY_INPUT);
        x.drop(0);
        x.challenge(1, 0);
        Dojo.test(x, 0, Dojo.row(2), Dojo.row(6));
        Dojo.fix(x, 0, 0, Dojo.row(1), Dojo.row(6));
        x.days(7);
        check.same("there is no body to run any more", x.steps(0, 0), 13);
        check.refuses("nor for an added test", Dojo.NO_ELEMENT, () -> x.steps(0, 1));
    }

    private static void hasItsBody() {
        check.words("Returns whether a work has its body");
        Katacode x = Dojo.doubling(2, 1);
        Dojo.submit(x, 0, 0, Dojo.SIX);
        check.same("in s", x.hasBody(0), true);
        Dojo.fix(x, 0, 0, Dojo.row(3), Dojo.row(7));
        check.same("in f", x.hasBody(0), true);
        Dojo.fix(x, 0, 0, Dojo.row(3), Dojo.row(6));
        x.read(1, 0);
        x.drop(0);
        check.same("in p, though there is a copy", x.hasBody(0), false);
        x.challenge(1, 0);
        check.same("in c", x.hasBody(0), false);
        x.give(1, 0);
        check.same("in s again", x.hasBody(0), true);
        Dojo.fix(x, 0, 0, Dojo.row(3), Dojo.row(7));
        x.drop(0);
        check.same("in b", x.hasBody(0), false);
    }

    private static void lettersOfABody() {
        check.words("if it has no body, or there is no such step");
        Katacode x = Dojo.doubling(2, 1, 1);
        Dojo.submit(x, 0, 0, Dojo.SIX);
        check.same("the first", x.letter(0, 0), 'n');
        check.same("the last", x.letter(0, 1), 'o');
        for (int step : new int[] {-1, 2, 23, 24, MIN, MAX}) {
            check.refuses("step " + step, Dojo.NO_ELEMENT, () -> x.letter(0, step));
        }
        x.drop(0);
        check.refuses("in p", Dojo.NO_ELEMENT, () -> x.letter(0, 0));
        x.challenge(1, 0);
        check.refuses("in c", Dojo.NO_ELEMENT, () -> x.letter(0, 0));
        Dojo.fix(x, 1, 0, Dojo.NO_NUMBERS, Dojo.NO_NUMBERS);
        Dojo.submit(x, 0, 1, "");
        check.refuses("of a body without steps", Dojo.NO_ELEMENT, () -> x.letter(1, 0));
        String all = "n0 i + n2 - n3 * n4 % d s p o n0 [ ]";
        Dojo.fix(x, 1, 0, Dojo.row(5), Dojo.row(1));
        check.same("a work of all letters", Dojo.submit(x, 0, 1, all), 2);
        String letters = "ni+n-n*n%dspon[]";
        for (int i = 0; i < letters.length(); i++) {
            check.same("letter " + i, x.letter(2, i), letters.charAt(i));
        }
    }
}
