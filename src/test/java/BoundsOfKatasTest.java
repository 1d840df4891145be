/** The boundary cases of 'Katas', and of promises 4 to 9: numbers that are typed, katas, and their tests. */
public final class BoundsOfKatasTest {
    private static final Check check = new Check("BoundsOfKatasTest");
    private static final int MIN = Integer.MIN_VALUE;
    private static final int MAX = Integer.MAX_VALUE;
    private static final int[] OUT_OF_RANGE = {1000, -1000, MAX, MIN};

    public static void main(String[] args) {
        numbersInRange();
        numbersOutOfRange();
        fourInputs();
        sixExpected();
        kindsApart();
        clears();
        levels();
        eightKatas();
        testsFromNone();
        fiveTests();
        testsOfNoSuchKata();
        testsWithoutNumbers();
        testsOfAllNumbers();
        numbersAreWipedByATest();
        numbersAreWipedByAFix();
        addedTestWithoutWorks();
        worksThatFailByATest();
        worksThatDidFail();
        worksOutsideOfATest();
        fixesOfNoSuchTest();
        fixOfEachTest();
        worksOtherwiseByAFix();
        fixesAreMoreThanFive();
        check.finish();
    }

    private static void numbersInRange() {
        check.words("each from -999 to 999");
        for (boolean isExpected : new boolean[] {false, true}) {
            Katacode x = new Katacode();
            check.same("999", x.number(999, isExpected), 1);
            check.same("-999", x.number(-999, isExpected), 2);
            check.same("0", x.number(0, isExpected), 3);
        }
        check.run("i o i o", Dojo.row(999, -999), Dojo.row(999, -999), 'o', 4, 0, 999, -999);
    }

    private static void numbersOutOfRange() {
        check.words("if it is out of range");
        for (boolean isExpected : new boolean[] {false, true}) {
            Katacode x = new Katacode();
            for (int number : OUT_OF_RANGE) {
                check.refuses("number(" + number + ")", Dojo.ARGUMENT, () -> x.number(number, isExpected));
            }
            check.same("nothing was typed", x.clear(), 0);
        }
    }

    private static void fourInputs() {
        check.words("if there are 6, or 4");
        Katacode x = new Katacode();
        for (int i = 1; i <= 4; i++) {
            check.same("input " + i, x.number(i, false), i);
        }
        check.refuses("input 5", Dojo.STATE, () -> x.number(5, false));
        check.same("the 4 are there", x.clear(), 4);
        check.same("the first after that", x.number(5, false), 1);
    }

    private static void sixExpected() {
        check.words("if there are 6, or 4");
        Katacode x = new Katacode();
        for (int i = 1; i <= 6; i++) {
            check.same("expected " + i, x.number(i, true), i);
        }
        check.refuses("expected 7", Dojo.STATE, () -> x.number(7, true));
        check.same("the 6 are there", x.clear(), 6);
        check.same("the first after that", x.number(7, true), 1);
    }

    private static void kindsApart() {
        check.words("Returns how many there are of these");
        Katacode x = new Katacode();
        for (int i = 1; i <= 6; i++) {
            x.number(0, true);
        }
        check.same("the first input beside 6 expected", x.number(0, false), 1);
        for (int i = 2; i <= 4; i++) {
            x.number(0, false);
        }
        check.same("clear of all", x.clear(), 10);
        for (int i = 1; i <= 4; i++) {
            x.number(0, false);
        }
        check.same("the first expected beside 4 inputs", x.number(0, true), 1);
        check.refuses("input 5", Dojo.STATE, () -> x.number(0, false));
    }

    private static void clears() {
        check.words("Wipes the numbers of both kinds");
        Katacode x = new Katacode();
        check.same("clear of none", x.clear(), 0);
        x.number(1, false);
        check.same("clear of an input", x.clear(), 1);
        x.number(1, true);
        check.same("clear of an expected one", x.clear(), 1);
        x.number(1, true);
        x.number(1, false);
        check.same("clear of both", x.clear(), 2);
        check.same("nothing is left", x.clear(), 0);
        x.kata(1);
        x.test(0);
        check.same("nor comes into a test", Dojo.run(x, 0, 0, ""), 'o');
        check.same("nor its input", Dojo.run(x, 0, 0, "i"), 'e');
    }

    private static void levels() {
        check.words("each with a level, 1 to 5");
        Katacode x = new Katacode();
        for (int level : new int[] {0, 6, -1, MIN, MAX}) {
            check.refuses("kata(" + level + ")", Dojo.ARGUMENT, () -> x.kata(level));
        }
        check.refuses("none was added", Dojo.INDEX, () -> x.tests(0));
        x.member();
        float due = 0.0f;
        for (int level = 1; level <= 5; level++) {
            check.same("kata(" + level + ")", x.kata(level), level - 1);
            Dojo.test(x, level - 1, Dojo.row(3), Dojo.row(6));
            Dojo.submit(x, 0, level - 1, Dojo.DOUBLE);
            due += level;
            check.same("points of levels up to " + level, x.points(0), due);
        }
    }

    private static void eightKatas() {
        check.words("if there are 8");
        Katacode x = new Katacode();
        for (int i = 0; i < 8; i++) {
            int next = i;
            check.refuses("tests(" + i + ") before", Dojo.INDEX, () -> x.tests(next));
            check.same("kata", x.kata(1), i);
            check.same("its tests", x.tests(i), 0);
        }
        for (int level = 1; level <= 5; level++) {
            int next = level;
            check.refuses("kata 9 of level " + level, Dojo.STATE, () -> x.kata(next));
        }
        check.refuses("tests(8)", Dojo.INDEX, () -> x.tests(8));
        check.same("the last one can be used", x.test(7), 0);
    }

    private static void testsFromNone() {
        check.words("Returns how many tests a kata has");
        Katacode x = new Katacode();
        for (int kata : new int[] {0, -1, MIN, MAX}) {
            check.refuses("tests(" + kata + ") without katas", Dojo.INDEX, () -> x.tests(kata));
        }
        x.kata(1);
        check.same("tests(0)", x.tests(0), 0);
        for (int kata : new int[] {1, 7, 8, -1, MIN, MAX}) {
            check.refuses("tests(" + kata + ") with one", Dojo.INDEX, () -> x.tests(kata));
        }
    }

    private static void fiveTests() {
        check.words("if it has 5");
        Katacode x = new Katacode();
        x.kata(1);
        x.kata(1);
        for (int i = 1; i <= 5; i++) {
            check.same("test", x.test(0), 0);
            check.same("tests", x.tests(0), i);
        }
        x.number(1, true);
        check.refuses("test 6", Dojo.STATE, () -> x.test(0));
        check.same("there are 5", x.tests(0), 5);
        check.same("the number is there", x.clear(), 1);
        check.same("the first of another kata", x.test(1), 0);
        check.same("tests of the other", x.tests(1), 1);
    }

    private static void testsOfNoSuchKata() {
        check.words("Throws IndexOutOfBoundsException if there is no such kata");
        Katacode x = new Katacode();
        check.refuses("test(0) without katas", Dojo.INDEX, () -> x.test(0));
        x.kata(1);
        x.number(1, false);
        for (int kata : new int[] {1, 7, 8, -1, MIN, MAX}) {
            check.refuses("test(" + kata + ")", Dojo.INDEX, () -> x.test(kata));
        }
        check.same("none was added", x.tests(0), 0);
        check.same("the number is there", x.clear(), 1);
    }

    private static void testsWithoutNumbers() {
        check.words("Adds a test by the numbers that are typed");
        Katacode x = new Katacode();
        x.kata(1);
        check.same("a test of nothing", x.test(0), 0);
        check.same("it expects nothing", Dojo.run(x, 0, 0, ""), 'o');
        check.same("and nothing else", Dojo.run(x, 0, 0, "n0 o"), 'w');
        check.same("and has no input", Dojo.run(x, 0, 0, "i"), 'e');
        x.member();
        check.same("a work by it", Dojo.submit(x, 0, 0, ""), 0);
    }

    private static void testsOfAllNumbers() {
        check.words("an input, at most 4 numbers, and an expected output, at most 6");
        int[] input = {1, -2, 3, -999};
        int[] expected = {1, -2, 3, -999, 5, 999};
        String program = "i o i o i o i o n5 o n999 o";
        check.run(program, input, expected, 'o', 12, 0, expected);
        for (int i = 0; i < expected.length; i++) {
            int[] other = expected.clone();
            other[i] += i < 5 ? 1 : -1;
            check.run(program, input, other, 'w', 12, 0, expected);
        }
        Katacode x = new Katacode();
        x.kata(1);
        x.test(0);
        Dojo.fix(x, 0, 0, input, expected);
        check.same("by a fix", Dojo.run(x, 0, 0, program), 'o');
        Dojo.fix(x, 0, 0, Dojo.row(7), Dojo.row(7));
        check.same("by a shorter one", Dojo.run(x, 0, 0, "i o"), 'o');
        check.same("nothing is left of the longer", Dojo.run(x, 0, 0, "i i"), 'e');
    }

    private static void numbersAreWipedByATest() {
        check.words("by the numbers that are typed, which are wiped then");
        Katacode x = new Katacode();
        x.kata(1);
        Dojo.test(x, 0, Dojo.row(1, 2, 3, 4), Dojo.row(1, 2, 3, 4, 5, 6));
        check.same("clear", x.clear(), 0);
        Dojo.test(x, 0, Dojo.row(1), Dojo.row(1));
        check.same("the first input after that", x.number(1, false), 1);
        check.same("the first expected after that", x.number(1, true), 1);
        check.same("the test keeps its own", Dojo.run(x, 0, 0, "i o i o i o i o n5 o n6 o"), 'o');
    }

    private static void numbersAreWipedByAFix() {
        check.words("Puts a test right by the numbers that are typed, which are wiped then");
        Katacode x = new Katacode();
        x.kata(1);
        x.test(0);
        Dojo.fix(x, 0, 0, Dojo.row(1, 2, 3, 4), Dojo.row(1, 2, 3, 4, 5, 6));
        check.same("clear", x.clear(), 0);
        check.same("the first input after that", x.number(1, false), 1);
        check.same("the first expected after that", x.number(1, true), 1);
    }

    private static void addedTestWithoutWorks() {
        check.words("Returns how many works fail by it that did not");
        Katacode x = Dojo.doubling(1, 1, 1);
        check.same("without works", Dojo.test(x, 0, Dojo.row(1), Dojo.row(1)), 0);
        Dojo.submit(x, 0, 1, Dojo.DOUBLE);
        check.same("a work that passes", Dojo.test(x, 1, Dojo.row(1), Dojo.row(2)), 0);
        check.same("in s", x.state(0), 's');
        check.same("a work that does not", Dojo.test(x, 1, Dojo.row(1), Dojo.row(1)), 1);
        check.same("in f", x.state(0), 'f');
    }

    private static void worksThatFailByATest() {
        check.words("Returns how many works fail by it that did not");
        Katacode x = Dojo.doubling(1, 1);
        x.capacity(40);
        Dojo.type(x, Dojo.SIX);
        for (int i = 0; i < 39; i++) {
            x.submit(0, 0);
        }
        Dojo.submit(x, 0, 0, Dojo.DOUBLE);
        check.same("all but one of 40", Dojo.test(x, 0, Dojo.row(1), Dojo.row(2)), 39);
        check.same("the first", x.state(0), 'f');
        check.same("the last", x.state(39), 's');
        check.same("the one", Dojo.test(x, 0, Dojo.row(1), Dojo.row(1)), 1);
        check.same("none", Dojo.test(x, 0, Dojo.row(1), Dojo.row(3)), 0);
    }

    private static void worksThatDidFail() {
        check.words("that did not");
        Katacode x = Dojo.doubling(1, 1);
        Dojo.submit(x, 0, 0, Dojo.SIX);
        check.same("it fails", Dojo.test(x, 0, Dojo.row(1), Dojo.row(2)), 1);
        check.same("it did already", Dojo.test(x, 0, Dojo.row(2), Dojo.row(4)), 0);
        check.same("it passes this one, and stays in f", Dojo.test(x, 0, Dojo.row(2), Dojo.row(6)), 0);
        check.same("state", x.state(0), 'f');
    }

    private static void worksOutsideOfATest() {
        check.words("of the kata as they are now");
        Katacode x = Dojo.doubling(2, 1, 1);
        for (int i = 0; i < 3; i++) {
            Dojo.submit(x, 0, 0, Dojo.SIX);
        }
        Dojo.submit(x, 0, 1, Dojo.SIX);
        x.drop(0);
        x.drop(1);
        x.challenge(1, 1);
        check.same("one that has its body, of this kata", Dojo.test(x, 0, Dojo.row(1), Dojo.row(2)), 1);
        check.same("in p", x.state(0), 'p');
        check.same("in c", x.state(1), 'c');
        check.same("in f", x.state(2), 'f');
        check.same("of another kata", x.state(3), 's');
        x.drop(2);
        check.same("none by a fix", Dojo.fix(x, 0, 1, Dojo.row(1), Dojo.row(6)), 0);
        check.same("in p still", x.state(0), 'p');
        check.same("in c still", x.state(1), 'c');
        check.same("in b for good", x.state(2), 'b');
    }

    private static void fixesOfNoSuchTest() {
        check.words("if there is no such kata or test");
        Katacode x = new Katacode();
        check.refuses("fix without katas", Dojo.INDEX, () -> x.fix(0, 0));
        x.kata(1);
        x.kata(1);
        check.refuses("fix without tests", Dojo.INDEX, () -> x.fix(0, 0));
        Dojo.test(x, 0, Dojo.row(3), Dojo.row(6));
        x.number(7, true);
        for (int kata : new int[] {-1, 2, 8, MIN, MAX}) {
            check.refuses("kata " + kata, Dojo.INDEX, () -> x.fix(kata, 0));
        }
        for (int test : new int[] {-1, 1, 4, 5, MIN, MAX}) {
            check.refuses("test " + test, Dojo.INDEX, () -> x.fix(0, test));
        }
        check.refuses("a test of another kata", Dojo.INDEX, () -> x.fix(1, 0));
        check.same("the test is as it was", Dojo.run(x, 0, 0, Dojo.DOUBLE), 'o');
        check.same("the number is there", x.clear(), 1);
    }

    private static void fixOfEachTest() {
        check.words("gives it another input and expected output");
        for (int fixed = 0; fixed < 5; fixed++) {
            Katacode x = Dojo.doubling(1, 1);
            for (int i = 1; i < 5; i++) {
                Dojo.test(x, 0, Dojo.row(3 + i), Dojo.row(6 + 2 * i));
            }
            Dojo.submit(x, 0, 0, Dojo.DOUBLE);
            check.same("a fix of test " + fixed, Dojo.fix(x, 0, fixed, Dojo.row(1), Dojo.row(1)), 1);
            for (int i = 0; i < 5; i++) {
                check.same("by test " + i, x.run(0, i), i == fixed ? 'w' : 'o');
            }
            check.same("tests", x.tests(0), 5);
            check.same("put right again", Dojo.fix(x, 0, fixed, Dojo.row(1), Dojo.row(2)), 1);
            check.same("state", x.state(0), 's');
        }
    }

    private static void worksOtherwiseByAFix() {
        check.words("Returns how many works pass or fail otherwise than before");
        Katacode x = Dojo.doubling(1, 1);
        check.same("without works", Dojo.fix(x, 0, 0, Dojo.row(3), Dojo.row(6)), 0);
        x.capacity(40);
        Dojo.type(x, Dojo.SIX);
        for (int i = 0; i < 20; i++) {
            x.submit(0, 0);
        }
        Dojo.type(x, Dojo.DOUBLE);
        for (int i = 0; i < 20; i++) {
            x.submit(0, 0);
        }
        check.same("20 fail", Dojo.fix(x, 0, 0, Dojo.row(1), Dojo.row(2)), 20);
        check.same("20 fail and 20 pass", Dojo.fix(x, 0, 0, Dojo.row(1), Dojo.row(6)), 40);
        check.same("the first", x.state(0), 's');
        check.same("the last", x.state(39), 'f');
        check.same("none", Dojo.fix(x, 0, 0, Dojo.row(2), Dojo.row(6)), 0);
        check.same("20 pass", Dojo.fix(x, 0, 0, Dojo.row(3), Dojo.row(6)), 20);
        check.same("all fail", Dojo.fix(x, 0, 0, Dojo.row(3), Dojo.row(7)), 40);
    }

    private static void fixesAreMoreThanFive() {
        check.words("at most 5 tests");
        Katacode x = new Katacode();
        x.kata(1);
        for (int i = 0; i < 5; i++) {
            x.test(0);
        }
        for (int i = 0; i < 9; i++) {
            check.same("a fix with 5 tests", Dojo.fix(x, 0, 4, Dojo.row(i), Dojo.row(i)), 0);
        }
        check.same("the last counts", Dojo.run(x, 0, 4, "n8 o"), 'o');
    }
}
