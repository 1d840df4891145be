/** Promises 15 to 26: members, works, and the archive that drops them. */
public final class WorksTest {
    private static final Check check = new Check("WorksTest");

    public static void main(String[] args) {
        members();
        submits();
        wrongSubmits();
        fortyWorks();
        whatIsToldOfAWork();
        sums();
        stepsWithABody();
        stepsWithoutABody();
        lettersOfABody();
        drops();
        roomAtFirst();
        whoIsDroppedFirst();
        capacities();
        check.finish();
    }

    private static void members() {
        Katacode x = new Katacode();
        for (int i = 0; i < 10; i++) {
            check.same("member", x.member(), i);
            check.same("honour at first", x.honour(i), 10);
            check.same("belt at first", x.belt(i), 0);
            check.same("points at first", x.points(i), 0.0f);
        }
        check.refuses("member 11", Dojo.STATE, x::member);
        check.refuses("honour(10)", Dojo.INDEX, () -> x.honour(10));
    }

    private static void submits() {
        Katacode x = Dojo.doubling(2, 1, 2);
        check.same("a work", Dojo.submit(x, 1, 0, Dojo.DOUBLE), 0);
        check.same("what is typed stays", x.submit(0, 1), 1);
        check.same("wipe after submit", x.wipe(), 4);
        check.same("one that does not pass", Dojo.submit(x, 0, 0, "i o"), -1);
        check.same("one with an error", Dojo.submit(x, 0, 0, "n6 o p"), -1);
        check.same("works", x.works(), 2);
        check.same("bodies", x.bodies(), 2);
        Dojo.test(x, 0, Dojo.row(1), Dojo.row(2));
        check.same("one that passes one of two tests", Dojo.submit(x, 0, 0, Dojo.SIX), -1);
        check.same("one that passes both", Dojo.submit(x, 0, 0, Dojo.DOUBLE_BY_TWO), 2);
        x.wipe();
        check.same("an empty program that does not pass", x.submit(0, 0), -1);
        Dojo.test(x, x.kata(1), Dojo.row(1), Dojo.NO_NUMBERS);
        check.same("an empty program that passes", x.submit(0, 2), 3);
        check.same("its sum", x.sum(3), 17L);
        check.same("its steps", x.steps(3, 0), 0);
        check.same("how many it has", x.of(3, 'n'), 0);
    }

    private static void wrongSubmits() {
        Katacode x = Dojo.doubling(1, 1);
        x.kata(1);
        Dojo.type(x, Dojo.DOUBLE);
        check.refuses("member -1", Dojo.INDEX, () -> x.submit(-1, 0));
        check.refuses("member 1", Dojo.INDEX, () -> x.submit(1, 0));
        check.refuses("kata -1", Dojo.INDEX, () -> x.submit(0, -1));
        check.refuses("kata 2", Dojo.INDEX, () -> x.submit(0, 2));
        check.refuses("a kata without a test", Dojo.UNSUPPORTED, () -> x.submit(0, 1));
        Dojo.type(x, "i d + o [");
        check.refuses("not whole", Dojo.UNSUPPORTED, () -> x.submit(0, 0));
        check.refuses("no member before not whole", Dojo.INDEX, () -> x.submit(1, 0));
        check.same("works", x.works(), 0);
    }

    private static void fortyWorks() {
        Katacode x = Dojo.doubling(1, 1);
        x.kata(1);
        for (int i = 0; i < 40; i++) {
            check.same("work", Dojo.submit(x, 0, 0, Dojo.DOUBLE), i);
        }
        check.refuses("work 41", Dojo.STATE, () -> x.submit(0, 0));
        check.refuses("a kata without a test comes first", Dojo.UNSUPPORTED, () -> x.submit(0, 1));
        check.refuses("no kata comes first", Dojo.INDEX, () -> x.submit(0, 2));
        Dojo.type(x, "i o");
        check.refuses("work 41 that does not pass", Dojo.STATE, () -> x.submit(0, 0));
        Dojo.type(x, "[");
        check.refuses("not whole comes first", Dojo.UNSUPPORTED, () -> x.submit(0, 0));
        check.same("works", x.works(), 40);
        check.same("bodies", x.bodies(), 12);
        check.refuses("state(40)", Dojo.INDEX, () -> x.state(40));
        check.same("isSound", x.isSound(), true);
    }

    private static void whatIsToldOfAWork() {
        Katacode x = Dojo.doubling(3, 1, 2);
        Dojo.submit(x, 2, 1, Dojo.DOUBLE);
        check.same("m", x.of(0, 'm'), 2);
        check.same("k", x.of(0, 'k'), 1);
        check.same("n", x.of(0, 'n'), 4);
        check.same("v without votes", x.of(0, 'v'), 0);
        check.same("w without votes", x.of(0, 'w'), 0);
        x.vote(0, 0, 3);
        x.vote(1, 0, 5);
        x.vote(1, 0, 4);
        check.same("v", x.of(0, 'v'), 2);
        check.same("w", x.of(0, 'w'), 2);
        x.drop(0);
        check.same("n without a body", x.of(0, 'n'), 4);
        check.same("v without a body", x.of(0, 'v'), 2);
        for (char what : new char[] {'M', 'x', 's', ' ', 0, (char) 65535}) {
            check.refuses("of " + (int) what, Dojo.ARGUMENT, () -> x.of(0, what));
        }
        check.refuses("of(-1, m)", Dojo.INDEX, () -> x.of(-1, 'm'));
        check.refuses("of(1, m)", Dojo.INDEX, () -> x.of(1, 'm'));
        check.refuses("of(1, x)", Dojo.INDEX, () -> x.of(1, 'x'));
        check.refuses("state(-1)", Dojo.INDEX, () -> x.state(-1));
        check.refuses("state(1)", Dojo.INDEX, () -> x.state(1));
        check.refuses("hasBody(-1)", Dojo.INDEX, () -> x.hasBody(-1));
        check.refuses("hasBody(1)", Dojo.INDEX, () -> x.hasBody(1));
    }

    private static void sums() {
        Katacode x = Dojo.doubling(1, 1);
        Dojo.submit(x, 0, 0, Dojo.SIX);
        long due = 17;
        for (long part : new long[] {'n', 6, 'o', 0}) {
            due = due * 31 + part;
        }
        check.same("sum", x.sum(0), due);
        Dojo.type(x, "n-999 p n6");
        x.step('o', 12345);
        x.submit(0, 0);
        due = 17;
        for (long part : new long[] {'n', -999, 'p', 0, 'n', 6, 'o', 0}) {
            due = due * 31 + part;
        }
        check.same("a number of no meaning counts 0", x.sum(1), due);
        StringBuilder most = new StringBuilder("n6 o");
        due = 17;
        for (long part : new long[] {'n', 6, 'o', 0}) {
            due = due * 31 + part;
        }
        for (int i = 0; i < 11; i++) {
            most.append(" n999 p");
            due = ((due * 31 + 'n') * 31 + 999) * 31 * 31 + 'p' * 31;
        }
        Dojo.submit(x, 0, 0, most.toString());
        check.same("a sum that wraps around", x.sum(2), due);
        x.drop(2);
        check.same("the sum is kept", x.sum(2), due);
        check.refuses("sum(-1)", Dojo.INDEX, () -> x.sum(-1));
        check.refuses("sum(3)", Dojo.INDEX, () -> x.sum(3));
    }

    private static void stepsWithABody() {
        Katacode x = Dojo.doubling(1, 1);
        Dojo.submit(x, 0, 0, "i [ o n0 ] n3 o");
        check.refuses("it does not pass", Dojo.INDEX, () -> x.steps(0, 0));
        Dojo.submit(x, 0, 0, "n6 o i [ n1 - ]");
        check.same("steps", x.steps(0, 0), 4 + 3 * 3);
        Dojo.test(x, 0, Dojo.row(5), Dojo.row(6));
        check.same("steps of an added test", x.steps(0, 1), 4 + 5 * 3);
        Dojo.fix(x, 0, 0, Dojo.row(1), Dojo.row(7));
        check.same("steps of a test put right, of one that fails", x.steps(0, 0), 4 + 3);
        Dojo.fix(x, 0, 0, Dojo.NO_NUMBERS, Dojo.row(7));
        check.same("steps up to an error", x.steps(0, 0), 2);
        check.refuses("steps(-1, 0)", Dojo.INDEX, () -> x.steps(-1, 0));
        check.refuses("steps(1, 0)", Dojo.INDEX, () -> x.steps(1, 0));
        check.refuses("steps(0, -1)", Dojo.INDEX, () -> x.steps(0, -1));
        check.refuses("steps(0, 2)", Dojo.INDEX, () -> x.steps(0, 2));
    }

    private static void stepsWithoutABody() {
        Katacode x = Dojo.doubling(2, 1);
        Dojo.submit(x, 0, 0, "n6 o i [ n1 - ]");
        Dojo.submit(x, 0, 0, "n6 o i [ n1 - ]");
        Dojo.test(x, 0, Dojo.row(5), Dojo.row(6));
        x.drop(0);
        Dojo.fix(x, 0, 0, Dojo.row(9), Dojo.row(6));
        check.same("steps as it was dropped", x.steps(0, 0), 4 + 3 * 3);
        check.same("those of the second", x.steps(0, 1), 4 + 5 * 3);
        check.same("steps with a body", x.steps(1, 0), 4 + 9 * 3);
        Dojo.test(x, 0, Dojo.row(1), Dojo.row(1));
        check.refuses("steps of a test added since", Dojo.NO_ELEMENT, () -> x.steps(0, 2));
        check.refuses("no such test", Dojo.INDEX, () -> x.steps(0, 3));
        check.same("in f", x.state(1), 'f');
        x.drop(1);
        check.same("broken by that", x.state(1), 'b');
        check.same("steps as it was broken", x.steps(1, 2), 4 + 3);
        Dojo.test(x, 0, Dojo.row(1), Dojo.row(1));
        check.refuses("steps of a test added behind that", Dojo.NO_ELEMENT, () -> x.steps(1, 3));
        x.challenge(1, 0);
        x.days(7);
        check.same("steps stay as the days break it", x.steps(0, 0), 4 + 3 * 3);
        check.refuses("of a test added before that", Dojo.NO_ELEMENT, () -> x.steps(0, 2));
    }

    private static void lettersOfABody() {
        Katacode x = Dojo.doubling(1, 1);
        Dojo.submit(x, 0, 0, "n6 o n0 [ p ]");
        String letters = "non[p]";
        x.wipe();
        x.step('s', 0);
        for (int i = 0; i < letters.length(); i++) {
            check.same("letter " + i, x.letter(0, i), letters.charAt(i));
        }
        check.refuses("letter(0, -1)", Dojo.NO_ELEMENT, () -> x.letter(0, -1));
        check.refuses("letter(0, 6)", Dojo.NO_ELEMENT, () -> x.letter(0, 6));
        check.refuses("letter(0, 24)", Dojo.NO_ELEMENT, () -> x.letter(0, 24));
        check.refuses("letter(-1, 0)", Dojo.INDEX, () -> x.letter(-1, 0));
        check.refuses("letter(1, 0)", Dojo.INDEX, () -> x.letter(1, 0));
        x.drop(0);
        check.refuses("without a body", Dojo.NO_ELEMENT, () -> x.letter(0, 0));
    }

    private static void drops() {
        Katacode x = Dojo.doubling(2, 1);
        Dojo.submit(x, 0, 0, Dojo.DOUBLE);
        Dojo.submit(x, 0, 0, Dojo.SIX);
        Dojo.submit(x, 0, 0, Dojo.DOUBLE);
        check.same("hasBody", x.hasBody(0), true);
        check.same("drop", x.drop(0), 2);
        check.same("state", x.state(0), 'p');
        check.same("hasBody after that", x.hasBody(0), false);
        check.same("bodies", x.bodies(), 2);
        check.refuses("drop in p", Dojo.UNSUPPORTED, () -> x.drop(0));
        x.challenge(1, 0);
        check.same("state in c", x.state(0), 'c');
        check.refuses("drop in c", Dojo.UNSUPPORTED, () -> x.drop(0));
        Dojo.test(x, 0, Dojo.row(1), Dojo.row(2));
        check.same("drop in f", x.drop(1), 1);
        check.same("state in b", x.state(1), 'b');
        check.refuses("drop in b", Dojo.UNSUPPORTED, () -> x.drop(1));
        Dojo.fix(x, 0, 1, Dojo.row(3), Dojo.row(6));
        check.same("broken for good", x.state(1), 'b');
        check.refuses("drop(-1)", Dojo.INDEX, () -> x.drop(-1));
        check.refuses("drop(3)", Dojo.INDEX, () -> x.drop(3));
    }

    private static void roomAtFirst() {
        Katacode x = Dojo.doubling(1, 1);
        for (int i = 0; i < 12; i++) {
            Dojo.submit(x, 0, 0, Dojo.DOUBLE);
            check.same("bodies", x.bodies(), i + 1);
        }
        Dojo.submit(x, 0, 0, Dojo.DOUBLE);
        check.same("bodies at most 12", x.bodies(), 12);
        check.same("the first is dropped", x.state(0), 'p');
        check.same("the second is not", x.state(1), 's');
        check.same("the newest is not", x.state(12), 's');
    }

    private static void whoIsDroppedFirst() {
        Katacode x = Dojo.doubling(3, 1, 1);
        Dojo.submit(x, 0, 0, Dojo.DOUBLE);
        Dojo.submit(x, 0, 0, Dojo.DOUBLE);
        Dojo.submit(x, 0, 1, Dojo.SIX);
        Dojo.submit(x, 0, 1, Dojo.SIX);
        Dojo.submit(x, 0, 0, Dojo.DOUBLE);
        x.vote(1, 0, 1);
        x.vote(1, 2, 5);
        x.vote(2, 2, 5);
        x.vote(1, 3, 1);
        Dojo.test(x, 1, Dojo.row(1), Dojo.row(2));
        check.same("none is dropped by room for 5", x.capacity(5), 0);
        check.same("one is dropped by room for 4", x.capacity(4), 1);
        check.same("one in f, with the least weights", x.state(3), 'b');
        check.same("the other in f is still there", x.state(2), 'f');
        check.same("the next", x.capacity(3), 1);
        check.same("the other in f, with the most weights", x.state(2), 'b');
        check.same("the next", x.capacity(2), 1);
        check.same("the one without votes of the lowest number", x.state(1), 'p');
        check.same("a work of another kata", Dojo.submit(x, 0, 0, Dojo.DOUBLE), 5);
        check.same("the next without votes", x.state(4), 'p');
        check.same("the one with a vote", x.state(0), 's');
        x.vote(1, 5, 1);
        check.same("a work that is dropped as it is made", Dojo.submit(x, 0, 0, Dojo.DOUBLE), 6);
        check.same("it stands on its proof", x.state(6), 'p');
        check.same("steps of its proof", x.steps(6, 0), 4);
        check.same("bodies", x.bodies(), 2);
        check.same("isSound", x.isSound(), true);
    }

    private static void capacities() {
        Katacode x = Dojo.doubling(1, 1);
        for (int i = 0; i < 40; i++) {
            check.same("room for 40 drops none", x.capacity(40), 0);
            Dojo.submit(x, 0, 0, Dojo.DOUBLE);
        }
        check.same("bodies", x.bodies(), 40);
        for (int bodies : new int[] {0, 41, -1, Integer.MIN_VALUE, Integer.MAX_VALUE}) {
            check.refuses("capacity(" + bodies + ")", Dojo.ARGUMENT, () -> x.capacity(bodies));
        }
        check.same("nothing is dropped by that", x.bodies(), 40);
        check.same("capacity(1)", x.capacity(1), 39);
        check.same("the last is left", x.state(39), 's');
        check.same("capacity(1) again", x.capacity(1), 0);
        check.same("bodies", x.bodies(), 1);
    }
}
