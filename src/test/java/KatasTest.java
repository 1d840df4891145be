/** Promises 6 to 9: katas, and tests that are added or put right. */
public final class KatasTest {
    private static final Check check = new Check("KatasTest");

    public static void main(String[] args) {
        katas();
        tests();
        testsTakeWhatIsTyped();
        addedTests();
        fixedTests();
        wrongFixes();
        check.finish();
    }

    private static void katas() {
        Katacode x = new Katacode();
        for (int level : new int[] {0, 6, -1, Integer.MIN_VALUE, Integer.MAX_VALUE}) {
            check.refuses("kata(" + level + ")", Dojo.ARGUMENT, () -> x.kata(level));
        }
        for (int i = 0; i < 8; i++) {
            check.same("kata", x.kata(i % 5 + 1), i);
            check.same("tests of a new kata", x.tests(i), 0);
        }
        check.refuses("kata 9", Dojo.STATE, () -> x.kata(5));
        check.refuses("kata 9 of a wrong level", Dojo.ARGUMENT, () -> x.kata(6));
        check.refuses("tests(-1)", Dojo.INDEX, () -> x.tests(-1));
        check.refuses("tests(8)", Dojo.INDEX, () -> x.tests(8));
    }

    private static void tests() {
        Katacode x = new Katacode();
        x.kata(1);
        x.kata(2);
        check.refuses("test(-1)", Dojo.INDEX, () -> x.test(-1));
        check.refuses("test(2)", Dojo.INDEX, () -> x.test(2));
        for (int i = 1; i <= 5; i++) {
            check.same("test without works", x.test(1), 0);
            check.same("tests", x.tests(1), i);
        }
        check.same("tests of the other", x.tests(0), 0);
        x.number(1, false);
        x.number(2, true);
        check.refuses("test 6", Dojo.STATE, () -> x.test(1));
        check.refuses("no such kata", Dojo.INDEX, () -> x.test(2));
        check.same("a test that is refused wipes nothing", x.clear(), 2);
        check.same("nor does it count", x.tests(1), 5);
    }

    private static void testsTakeWhatIsTyped() {
        Katacode x = new Katacode();
        x.kata(1);
        check.same("test", Dojo.test(x, 0, Dojo.row(5, 7), Dojo.row(7, 5)), 0);
        check.same("the numbers are wiped", x.clear(), 0);
        check.same("an empty test", x.test(0), 0);
        check.same("by the first", Dojo.run(x, 0, 0, "i i o o"), 'o');
        check.same("by the second", x.run(0, 1), 'e');
        check.same("nothing by the second", Dojo.run(x, 0, 1, ""), 'o');
        Dojo.fix(x, 0, 0, Dojo.row(1), Dojo.NO_NUMBERS);
        check.same("the numbers are wiped by fix", x.clear(), 0);
        check.same("by the first, put right", Dojo.run(x, 0, 0, "i i"), 'e');
        check.same("its expected output", Dojo.run(x, 0, 0, "i"), 'o');
        check.same("the second is as it was", Dojo.run(x, 0, 1, ""), 'o');
        check.same("tests after fix", x.tests(0), 2);
    }

    private static void addedTests() {
        Katacode x = Dojo.doubling(2, 1, 1);
        Dojo.submit(x, 0, 0, Dojo.DOUBLE);
        Dojo.submit(x, 1, 0, Dojo.SIX);
        Dojo.submit(x, 0, 0, Dojo.SIX);
        Dojo.submit(x, 0, 1, Dojo.SIX);
        Dojo.submit(x, 0, 0, Dojo.SIX);
        x.drop(4);
        check.same("works that fail", Dojo.test(x, 0, Dojo.row(1), Dojo.row(2)), 2);
        check.same("that stands", x.state(0), 's');
        check.same("that fails", x.state(1), 'f');
        check.same("another that fails", x.state(2), 'f');
        check.same("one of another kata", x.state(3), 's');
        check.same("one without a body", x.state(4), 'p');
        check.same("those that failed are not told again", Dojo.test(x, 0, Dojo.row(2), Dojo.row(4)), 0);
        check.same("one in f that passes the new test stays", Dojo.test(x, 0, Dojo.row(2), Dojo.row(6)), 1);
        check.same("one in f", x.state(1), 'f');
        check.same("the last that fails", x.state(0), 'f');
    }

    private static void fixedTests() {
        Katacode x = Dojo.doubling(2, 1, 1);
        Dojo.submit(x, 0, 0, Dojo.DOUBLE);
        Dojo.submit(x, 1, 0, Dojo.SIX);
        Dojo.submit(x, 0, 1, Dojo.SIX);
        Dojo.submit(x, 1, 0, Dojo.SIX);
        x.drop(3);
        check.same("one that fails now", Dojo.fix(x, 0, 0, Dojo.row(1), Dojo.row(2)), 1);
        check.same("the one", x.state(1), 'f');
        check.same("both otherwise", Dojo.fix(x, 0, 0, Dojo.row(1), Dojo.row(6)), 2);
        check.same("the first", x.state(0), 'f');
        check.same("the second", x.state(1), 's');
        check.same("one of another kata", x.state(2), 's');
        check.same("one without a body", x.state(3), 'p');
        check.same("none otherwise", Dojo.fix(x, 0, 0, Dojo.row(2), Dojo.row(6)), 0);
        check.same("one that passes again", Dojo.fix(x, 0, 0, Dojo.row(3), Dojo.row(6)), 1);
        check.same("the first again", x.state(0), 's');
    }

    private static void wrongFixes() {
        Katacode x = Dojo.doubling(1, 1);
        Dojo.submit(x, 0, 0, Dojo.SIX);
        x.number(4, true);
        check.refuses("fix(-1, 0)", Dojo.INDEX, () -> x.fix(-1, 0));
        check.refuses("fix(1, 0)", Dojo.INDEX, () -> x.fix(1, 0));
        check.refuses("fix(0, -1)", Dojo.INDEX, () -> x.fix(0, -1));
        check.refuses("fix(0, 1)", Dojo.INDEX, () -> x.fix(0, 1));
        check.same("nothing was put right", x.state(0), 's');
        check.same("a fix that is refused wipes nothing", x.clear(), 1);
    }
}
