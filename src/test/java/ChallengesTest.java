/** Promises 37 to 42: challenges, and how they end. */
public final class ChallengesTest {
    private static final Check check = new Check("ChallengesTest");

    public static void main(String[] args) {
        challenges();
        wrongChallenges();
        eightOpen();
        givenCopies();
        wrongGifts();
        givenInF();
        toldBodies();
        whatIsNotTheBody();
        anotherProgramOfTheSum();
        testsThatAreNew();
        wrongAnswers();
        roomAfterASuccess();
        roomAfterAFailure();
        roomBeforeItIsBroken();
        copiesOfAnotherBody();
        days();
        openOnes();
        check.finish();
    }

    /** A dojo of three members, where 0 has a work in p. */
    private static Katacode proved(String program) {
        Katacode x = Dojo.doubling(3, 1);
        Dojo.submit(x, 0, 0, program);
        x.read(2, 0);
        x.drop(0);
        return x;
    }

    private static void challenges() {
        Katacode x = proved(Dojo.DOUBLE);
        check.same("challenge", x.challenge(1, 0), 1);
        check.same("state", x.state(0), 'c');
        check.same("honour", x.honour(1), 8);
        check.same("honour of the owner", x.honour(0), 10);
        check.same("left", x.left(0), 7);
        check.same("open", x.open(0), 0);
        check.same("it counts", x.standingShare(), 1.0f);
        check.same("isSound", x.isSound(), true);
        check.refuses("challenge again", Dojo.UNSUPPORTED, () -> x.challenge(2, 0));
    }

    private static void wrongChallenges() {
        Katacode x = Dojo.doubling(3, 1);
        for (int i = 0; i < 9; i++) {
            Dojo.submit(x, 0, 0, Dojo.SIX);
        }
        check.refuses("challenge(-1, 0)", Dojo.INDEX, () -> x.challenge(-1, 0));
        check.refuses("challenge(3, 0)", Dojo.INDEX, () -> x.challenge(3, 0));
        check.refuses("challenge(1, -1)", Dojo.INDEX, () -> x.challenge(1, -1));
        check.refuses("challenge(1, 9)", Dojo.INDEX, () -> x.challenge(1, 9));
        check.refuses("in s", Dojo.UNSUPPORTED, () -> x.challenge(1, 0));
        Dojo.fix(x, 0, 0, Dojo.row(1), Dojo.row(2));
        check.refuses("in f", Dojo.UNSUPPORTED, () -> x.challenge(1, 0));
        x.drop(0);
        check.refuses("in b", Dojo.UNSUPPORTED, () -> x.challenge(1, 0));
        Dojo.fix(x, 0, 0, Dojo.row(1), Dojo.row(6));
        for (int i = 1; i < 9; i++) {
            x.drop(i);
        }
        check.refuses("the own one", Dojo.UNSUPPORTED, () -> x.challenge(0, 1));
        for (int i = 1; i <= 5; i++) {
            check.same("challenge", x.challenge(1, i), i);
        }
        check.same("no honour", x.honour(1), 0);
        check.refuses("too little honour", Dojo.UNSUPPORTED, () -> x.challenge(1, 6));
        check.same("nothing was open by that", x.state(6), 'p');
        check.same("another one", x.challenge(2, 6), 6);
    }

    private static void eightOpen() {
        Katacode x = Dojo.doubling(4, 1);
        for (int i = 0; i < 10; i++) {
            Dojo.submit(x, 0, 0, Dojo.DOUBLE);
            if (i < 9) {
                x.drop(i);
            }
        }
        for (int i = 0; i < 8; i++) {
            check.same("challenge", x.challenge(i < 5 ? 1 : 2, i), i + 1);
        }
        check.refuses("challenge 9", Dojo.STATE, () -> x.challenge(3, 8));
        check.refuses("challenge 9 in s", Dojo.UNSUPPORTED, () -> x.challenge(3, 9));
        check.refuses("challenge 9 of the own one", Dojo.UNSUPPORTED, () -> x.challenge(0, 8));
        check.refuses("challenge 9 without honour", Dojo.UNSUPPORTED, () -> x.challenge(1, 8));
        check.refuses("challenge 9 of no work", Dojo.INDEX, () -> x.challenge(3, 10));
        check.same("honour", x.honour(3), 10);
        check.same("an answer", x.answer(3, 4), 's');
        check.same("room for one more", x.challenge(3, 8), 8);
        check.same("isSound", x.isSound(), true);
    }

    private static void givenCopies() {
        Katacode x = proved(Dojo.DOUBLE);
        x.challenge(1, 0);
        x.wipe();
        check.same("give", x.give(2, 0), 's');
        check.same("state", x.state(0), 's');
        check.same("hasBody", x.hasBody(0), true);
        check.same("letter", x.letter(0, 2), '+');
        check.same("honour of who gave", x.honour(2), 13);
        check.same("honour of who challenged", x.honour(1), 8);
        check.same("honour of the owner", x.honour(0), 10);
        check.same("the copy stays", x.copy(2, 0), 0);
        check.refuses("none is open", Dojo.NO_ELEMENT, () -> x.open(0));
        check.refuses("left", Dojo.UNSUPPORTED, () -> x.left(0));
        check.refuses("give again", Dojo.UNSUPPORTED, () -> x.give(2, 0));
        check.same("a day later", x.days(30), 0);
        check.same("isSound", x.isSound(), true);
        x.drop(0);
        x.challenge(2, 0);
        check.same("who challenged may give", x.give(2, 0), 's');
        check.same("honour", x.honour(2), 13 - 2 + 3);
    }

    private static void wrongGifts() {
        Katacode x = proved(Dojo.DOUBLE);
        check.refuses("give in p", Dojo.UNSUPPORTED, () -> x.give(2, 0));
        check.refuses("give in p without a copy", Dojo.UNSUPPORTED, () -> x.give(1, 0));
        x.challenge(1, 0);
        Dojo.submit(x, 0, 0, Dojo.DOUBLE);
        x.read(1, 1);
        check.refuses("give(-1, 0)", Dojo.INDEX, () -> x.give(-1, 0));
        check.refuses("give(3, 0)", Dojo.INDEX, () -> x.give(3, 0));
        check.refuses("give(2, -1)", Dojo.INDEX, () -> x.give(2, -1));
        check.refuses("give(2, 2)", Dojo.INDEX, () -> x.give(2, 2));
        check.refuses("give in s", Dojo.UNSUPPORTED, () -> x.give(1, 1));
        check.refuses("give without a copy", Dojo.NO_ELEMENT, () -> x.give(0, 0));
        check.refuses("give with a copy of another", Dojo.NO_ELEMENT, () -> x.give(1, 0));
        check.same("it is still open", x.open(0), 0);
        check.same("state", x.state(0), 'c');
        check.same("honour", x.honour(0) + x.honour(1) + x.honour(2), 28);
    }

    private static void givenInF() {
        Katacode x = proved(Dojo.SIX);
        Dojo.test(x, 0, Dojo.row(1), Dojo.row(2));
        x.challenge(1, 0);
        check.same("give", x.give(2, 0), 'b');
        check.same("state", x.state(0), 'b');
        check.same("hasBody", x.hasBody(0), false);
        check.same("bodies", x.bodies(), 0);
        check.same("honour of who gave", x.honour(2), 10);
        check.same("honour of who challenged", x.honour(1), 13);
        check.same("steps as it was broken", x.steps(0, 1), 2);
        check.refuses("none is open", Dojo.NO_ELEMENT, () -> x.open(0));
        check.refuses("give again", Dojo.UNSUPPORTED, () -> x.give(2, 0));
        check.same("isSound", x.isSound(), true);
    }

    private static void toldBodies() {
        Katacode x = proved(Dojo.DOUBLE);
        x.challenge(1, 0);
        Dojo.type(x, Dojo.DOUBLE);
        check.same("answer", x.answer(0, 0), 's');
        check.same("state", x.state(0), 's');
        check.same("honour of the owner who told it", x.honour(0), 13);
        check.same("honour of who challenged", x.honour(1), 8);
        check.same("what is typed stays", x.wipe(), 4);
        x.step('p', 0);
        check.same("the body is not what is typed then", x.letter(0, 0), 'i');
        check.same("of 4 steps", x.letter(0, 3), 'o');
        check.same("isSound", x.isSound(), true);
        x.drop(0);
        Dojo.fix(x, 0, 0, Dojo.row(1), Dojo.row(3));
        x.challenge(2, 0);
        Dojo.type(x, Dojo.DOUBLE);
        check.same("answer in f", x.answer(1, 0), 'b');
        check.same("honour of who told it", x.honour(1), 8);
        check.same("honour of who challenged", x.honour(2), 13);
        check.same("state", x.state(0), 'b');
        Dojo.fix(x, 0, 0, Dojo.row(3), Dojo.row(6));
        check.same("broken for good", x.state(0), 'b');
    }

    private static void whatIsNotTheBody() {
        Katacode x = proved("n6 o n5 p");
        x.challenge(1, 0);
        for (String program : new String[] {"", "n6 o", "n6 o n4 p", "n6 o p n5", "n6 o n5 p n1"}) {
            Dojo.type(x, program);
            check.same("'" + program + "'", x.answer(2, 0), '-');
        }
        check.same("state", x.state(0), 'c');
        check.same("honour", x.honour(2), 10);
        check.same("it is still open", x.open(0), 0);
        check.same("left", x.left(0), 7);
        Dojo.type(x, "n6 o n5 p");
        check.same("the body", x.answer(2, 0), 's');
    }

    /** n0 n961 and n1 n0 have the same sum, so only the steps that are kept tell them apart. */
    private static void anotherProgramOfTheSum() {
        String body = "n0 n961 [ p ] p n6 o";
        String other = "n1 n0 [ p ] p n6 o";
        Katacode x = proved(body);
        Dojo.type(x, other);
        check.same("it passes", x.submit(0, 0), 1);
        check.same("the same sum", x.sum(0) == x.sum(1), true);
        check.same("steps of the body", x.steps(0, 0), 8);
        check.same("steps of the other", x.steps(1, 0), 6);
        x.challenge(1, 0);
        check.same("other steps", x.answer(2, 0), '-');
        Dojo.fix(x, 0, 0, Dojo.row(3), Dojo.row(6));
        check.same("a test that is new does not tell", x.answer(2, 0), 's');
        check.same("steps of what is the body now", x.steps(0, 0), 6);
        check.same("isSound", x.isSound(), true);
        // A program with the same steps is as good as the body.
        Katacode y = proved("n0 n961 p p n6 o");
        y.challenge(1, 0);
        Dojo.type(y, "n1 n0 p p n6 o");
        check.same("the same sum and steps", y.answer(2, 0), 's');
    }

    private static void testsThatAreNew() {
        String body = "n0 n961 [ p ] p n6 o";
        String other = "n1 n0 [ p ] p n6 o";
        Katacode x = Dojo.doubling(3, 1);
        Dojo.test(x, 0, Dojo.row(3), Dojo.row(6));
        Dojo.fix(x, 0, 0, Dojo.row(3), Dojo.row(6));
        Dojo.submit(x, 0, 0, body);
        Dojo.fix(x, 0, 0, Dojo.row(3), Dojo.row(6));
        x.drop(0);
        x.challenge(1, 0);
        Dojo.type(x, other);
        check.same("what was put right before is not new", x.answer(2, 0), '-');
        Dojo.fix(x, 0, 0, Dojo.row(3), Dojo.row(6));
        Dojo.type(x, other);
        check.same("the second test is not new", x.answer(2, 0), '-');
        Dojo.test(x, 0, Dojo.row(4), Dojo.row(4));
        check.same("an added one is, but the second is not", x.answer(2, 0), '-');
        Dojo.type(x, body);
        check.same("the body, in f by the added one", x.answer(2, 0), 'b');
        check.same("steps as it was broken", x.steps(0, 2), 8);
        check.same("isSound", x.isSound(), true);
    }

    private static void wrongAnswers() {
        Katacode x = proved(Dojo.DOUBLE);
        Dojo.type(x, Dojo.DOUBLE);
        check.refuses("answer in p", Dojo.UNSUPPORTED, () -> x.answer(0, 0));
        x.challenge(1, 0);
        check.refuses("answer(-1, 0)", Dojo.INDEX, () -> x.answer(-1, 0));
        check.refuses("answer(3, 0)", Dojo.INDEX, () -> x.answer(3, 0));
        check.refuses("answer(0, -1)", Dojo.INDEX, () -> x.answer(0, -1));
        check.refuses("answer(0, 1)", Dojo.INDEX, () -> x.answer(0, 1));
        Dojo.type(x, "i d + o ]");
        check.refuses("not whole", Dojo.UNSUPPORTED, () -> x.answer(0, 0));
        check.refuses("no work before not whole", Dojo.INDEX, () -> x.answer(0, 1));
        check.same("state", x.state(0), 'c');
        x.days(7);
        Dojo.type(x, Dojo.DOUBLE);
        check.refuses("answer in b", Dojo.UNSUPPORTED, () -> x.answer(0, 0));
    }

    private static void roomAfterASuccess() {
        Katacode x = Dojo.doubling(3, 1);
        Dojo.submit(x, 0, 0, Dojo.DOUBLE);
        x.drop(0);
        Dojo.submit(x, 0, 0, Dojo.DOUBLE);
        x.vote(1, 1, 3);
        x.capacity(1);
        x.challenge(1, 0);
        Dojo.test(x, 0, Dojo.row(1), Dojo.row(2));
        check.same("it stands, dropped again at once", x.answer(2, 0), 's');
        check.same("state", x.state(0), 'p');
        check.same("steps are kept anew", x.steps(0, 1), 4);
        check.same("honour", x.honour(2), 13);
        check.same("bodies", x.bodies(), 1);
        Dojo.submit(x, 0, 0, Dojo.DOUBLE);
        check.same("the next work is dropped", x.state(2), 'p');
        x.challenge(1, 2);
        x.challenge(2, 0);
        check.same("isSound", x.isSound(), true);
        x.drop(1);
        check.same("there is room", x.answer(1, 0), 's');
        check.same("state", x.state(0), 's');
        check.same("the one with the lowest number is dropped", x.answer(1, 2), 's');
        check.same("the other one", x.state(0), 'p');
        check.same("this one", x.state(2), 's');
        check.same("honour", x.honour(1), 10 - 2 - 2 + 3 + 3);
    }

    private static void roomAfterAFailure() {
        Katacode x = Dojo.doubling(3, 1);
        Dojo.submit(x, 0, 0, Dojo.SIX);
        Dojo.submit(x, 0, 0, Dojo.DOUBLE);
        x.read(2, 0);
        x.drop(0);
        x.capacity(1);
        x.challenge(1, 0);
        Dojo.test(x, 0, Dojo.row(1), Dojo.row(2));
        check.same("it is broken", x.give(2, 0), 'b');
        check.same("the body that passes stays", x.state(1), 's');
        check.same("bodies", x.bodies(), 1);
        check.same("state", x.state(0), 'b');
        check.same("honour", x.honour(1), 13);
        check.same("isSound", x.isSound(), true);
    }

    /** The document names the room before the break, so another work in f with a lower number goes first. */
    private static void roomBeforeItIsBroken() {
        Katacode x = Dojo.doubling(3, 1);
        Dojo.submit(x, 0, 0, Dojo.SIX);
        Dojo.submit(x, 0, 0, Dojo.SIX);
        x.read(2, 1);
        x.drop(1);
        x.capacity(1);
        x.challenge(1, 1);
        Dojo.test(x, 0, Dojo.row(1), Dojo.row(2));
        check.same("it is broken", x.give(2, 1), 'b');
        check.same("state", x.state(1), 'b');
        check.same("the other in f made room", x.state(0), 'b');
        check.same("bodies", x.bodies(), 0);
        check.same("isSound", x.isSound(), true);
    }

    /** A copy stays what was read, though another program of the same sum has become the body since. */
    private static void copiesOfAnotherBody() {
        Katacode x = proved("n0 n961 [ p ] p n6 o");
        Dojo.fix(x, 0, 0, Dojo.row(3), Dojo.row(6));
        x.challenge(1, 0);
        Dojo.type(x, "n1 n0 [ p ] p n6 o");
        check.same("another body", x.answer(1, 0), 's');
        check.same("its steps", x.steps(0, 0), 6);
        x.drop(0);
        x.challenge(1, 0);
        check.same("the first body is given", x.give(2, 0), 's');
        check.same("steps of the first", x.steps(0, 0), 8);
    }

    private static void days() {
        Katacode x = Dojo.doubling(4, 1);
        for (int i = 0; i < 4; i++) {
            Dojo.submit(x, 0, 0, Dojo.DOUBLE);
            x.drop(i);
        }
        for (int days : new int[] {0, 31, -1, Integer.MIN_VALUE, Integer.MAX_VALUE}) {
            check.refuses("days(" + days + ")", Dojo.ARGUMENT, () -> x.days(days));
        }
        check.same("days without a challenge", x.days(30), 0);
        x.challenge(1, 2);
        check.same("days", x.days(1), 0);
        check.same("left", x.left(2), 6);
        x.challenge(2, 0);
        x.challenge(1, 3);
        check.same("days", x.days(5), 0);
        check.same("left of the first", x.left(2), 1);
        check.same("left of the second", x.left(0), 2);
        check.same("the first is over", x.days(1), 1);
        check.same("state", x.state(2), 'b');
        check.same("honour", x.honour(1), 10 - 4 + 5);
        check.same("honour of another", x.honour(2), 8);
        check.same("open", x.open(0), 0);
        check.same("left of the second", x.left(0), 1);
        check.refuses("left of the first", Dojo.UNSUPPORTED, () -> x.left(2));
        check.refuses("left in p", Dojo.UNSUPPORTED, () -> x.left(1));
        check.same("both are over", x.days(30), 2);
        check.same("honour", x.honour(1), 16);
        check.same("honour of another", x.honour(2), 13);
        check.same("one without a challenge", x.state(1), 'p');
        check.refuses("left(-1)", Dojo.INDEX, () -> x.left(-1));
        check.refuses("left(4)", Dojo.INDEX, () -> x.left(4));
        check.same("isSound", x.isSound(), true);
    }

    private static void openOnes() {
        Katacode x = Dojo.doubling(4, 1);
        for (int i = 0; i < 5; i++) {
            Dojo.submit(x, 0, 0, Dojo.DOUBLE);
            x.drop(i);
        }
        check.refuses("none is open", Dojo.NO_ELEMENT, () -> x.open(0));
        x.challenge(1, 3);
        x.challenge(2, 1);
        x.days(1);
        x.challenge(1, 4);
        x.challenge(1, 0);
        int[] due = {3, 1, 4, 0};
        for (int i = 0; i < due.length; i++) {
            check.same("open " + i, x.open(i), due[i]);
        }
        check.refuses("open(-1)", Dojo.NO_ELEMENT, () -> x.open(-1));
        check.refuses("open(4)", Dojo.NO_ELEMENT, () -> x.open(4));
        x.answer(3, 1);
        check.same("the second now", x.open(1), 4);
        check.refuses("open(3)", Dojo.NO_ELEMENT, () -> x.open(3));
        x.drop(1);
        x.challenge(3, 1);
        check.same("the last told", x.open(3), 1);
        x.days(6);
        check.same("the first now", x.open(0), 4);
        check.same("isSound", x.isSound(), true);
    }
}
