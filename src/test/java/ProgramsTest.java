/** Promises 1 to 5 and 10 to 14: what is typed, and how it runs. */
public final class ProgramsTest {
    private static final Check check = new Check("ProgramsTest");

    public static void main(String[] args) {
        newObject();
        steps();
        numbers();
        runAnswers();
        letters();
        brackets();
        errors();
        orderOfErrors();
        edgesOfErrors();
        wrongRuns();
        lastRun();
        check.finish();
    }

    private static void newObject() {
        Katacode x = new Katacode();
        check.same("works of a new one", x.works(), 0);
        check.same("bodies of a new one", x.bodies(), 0);
        check.same("wipe of a new one", x.wipe(), 0);
        check.same("clear of a new one", x.clear(), 0);
        check.same("checksum of a new one", x.checksum(), 7L);
        check.same("isSound of a new one", x.isSound(), true);
        check.refuses("tests(0) of a new one", Dojo.INDEX, () -> x.tests(0));
        check.refuses("honour(0) of a new one", Dojo.INDEX, () -> x.honour(0));
        check.refuses("state(0) of a new one", Dojo.INDEX, () -> x.state(0));
        check.refuses("ranked(0) of a new one", Dojo.NO_ELEMENT, () -> x.ranked(0));
        check.refuses("open(0) of a new one", Dojo.NO_ELEMENT, () -> x.open(0));
        check.refuses("standingShare of a new one", Dojo.ARITHMETIC, x::standingShare);
    }

    private static void steps() {
        Katacode x = new Katacode();
        int count = 0;
        for (char letter : "ni+-*%dspo[]".toCharArray()) {
            count++;
            check.same("step " + letter, x.step(letter, 7), count);
        }
        check.same("step n -999", x.step('n', -999), 13);
        check.same("step n 999", x.step('n', 999), 14);
        check.same("a number of no meaning", x.step('o', Integer.MIN_VALUE), 15);
        check.same("another one", x.step('i', Integer.MAX_VALUE), 16);
        check.refuses("n 1000", Dojo.ARGUMENT, () -> x.step('n', 1000));
        check.refuses("n -1000", Dojo.ARGUMENT, () -> x.step('n', -1000));
        for (char letter : new char[] {'N', 'x', ' ', '/', '(', 0, (char) 255, (char) 65535}) {
            check.refuses("letter " + (int) letter, Dojo.ARGUMENT, () -> x.step(letter, 0));
        }
        check.same("nothing was typed by that", x.step('p', 0), 17);
        for (int i = 18; i <= 24; i++) {
            check.same("step up to 24", x.step('p', 0), i);
        }
        check.refuses("step 25", Dojo.STATE, () -> x.step('p', 0));
        check.refuses("wrong letter of step 25", Dojo.ARGUMENT, () -> x.step('q', 0));
        check.refuses("wrong number of step 25", Dojo.ARGUMENT, () -> x.step('n', 1000));
        check.same("wipe", x.wipe(), 24);
        check.same("wipe again", x.wipe(), 0);
        check.same("step after wipe", x.step('n', 1), 1);
    }

    private static void numbers() {
        Katacode x = new Katacode();
        check.refuses("1000", Dojo.ARGUMENT, () -> x.number(1000, true));
        check.refuses("-1000", Dojo.ARGUMENT, () -> x.number(-1000, false));
        check.same("input 999", x.number(999, false), 1);
        check.same("input -999", x.number(-999, false), 2);
        check.same("expected 999", x.number(999, true), 1);
        check.same("input 3", x.number(0, false), 3);
        check.same("input 4", x.number(0, false), 4);
        check.refuses("input 5", Dojo.STATE, () -> x.number(0, false));
        check.refuses("input 5 out of range", Dojo.ARGUMENT, () -> x.number(1000, false));
        for (int i = 2; i <= 6; i++) {
            check.same("expected " + i, x.number(-999, true), i);
        }
        check.refuses("expected 7", Dojo.STATE, () -> x.number(0, true));
        check.refuses("expected 7 out of range", Dojo.ARGUMENT, () -> x.number(-1000, true));
        check.same("clear", x.clear(), 10);
        check.same("clear again", x.clear(), 0);
        check.same("input after clear", x.number(1, false), 1);
        check.same("expected after clear", x.number(1, true), 1);
        check.same("clear of both kinds", x.clear(), 2);
    }

    private static void runAnswers() {
        int[] none = Dojo.NO_NUMBERS;
        check.run("", none, none, 'o', 0, 0);
        check.run("", none, Dojo.row(0), 'w', 0, 0);
        check.run("n1 o", none, none, 'w', 2, 0, 1);
        check.run("n1 o n2 o", none, Dojo.row(1, 2), 'o', 4, 0, 1, 2);
        check.run("n1 o n2 o", none, Dojo.row(1, 3), 'w', 4, 0, 1, 2);
        check.run("n1 o n2 o", none, Dojo.row(2, 2), 'w', 4, 0, 1, 2);
        check.run("n1 o", none, Dojo.row(1, 2), 'w', 2, 0, 1);
        check.run("n1 o n1 o", none, Dojo.row(1), 'w', 4, 0, 1, 1);
        check.run("i o i o i o i o", Dojo.row(-999, 2, 3, 999), Dojo.row(-999, 2, 3, 999), 'o', 8, 0, -999, 2, 3, 999);
        check.run("i o", Dojo.row(5, 6), Dojo.row(5), 'o', 2, 0, 5);
    }

    private static void letters() {
        int[] none = Dojo.NO_NUMBERS;
        check.run("n7 n2 + o", none, none, 'w', 4, 0, 9);
        check.run("n7 n2 - o", none, none, 'w', 4, 0, 5);
        check.run("n7 n2 * o", none, none, 'w', 4, 0, 14);
        check.run("n7 n2 % o", none, none, 'w', 4, 0, 1);
        check.run("n-7 n2 % o", none, none, 'w', 4, 0, -1);
        check.run("n7 n-2 % o", none, none, 'w', 4, 0, 1);
        check.run("n-7 n-2 % o", none, none, 'w', 4, 0, -1);
        check.run("n7 n2 d o o o", none, none, 'w', 6, 0, 2, 2, 7);
        check.run("n7 n2 s o o", none, none, 'w', 5, 0, 7, 2);
        check.run("n7 n2 p o", none, none, 'w', 4, 0, 7);
        check.run("n7 n2", none, none, 'o', 2, 2);
        // 999 to the fourth power wraps around.
        check.run("n999 d * d * o", none, none, 'w', 6, 0, (int) (999L * 999 * 999 * 999));
        check.run("n2 d * d * d * d * d * n0 n1 - % o", none, none, 'w', 16, 0, 0);
    }

    private static void brackets() {
        int[] none = Dojo.NO_NUMBERS;
        check.run("n0 [ n5 o ] o", none, none, 'w', 3, 0, 0);
        check.run("n1 [ n0 ] o", none, none, 'w', 5, 1, 0);
        check.run("n3 [ d o n1 - ] p", none, Dojo.row(3, 2, 1), 'o', 18, 0, 3, 2, 1);
        check.run("n2 [ n3 [ n1 - ] p n1 - ] p", none, none, 'o', 2 + 2 * 15 + 1, 0);
        // The inner pair is passed by the outer '[' as a whole, and by the outer ']' back to behind the outer '['.
        check.run("n0 [ [ ] ] n4 o", none, none, 'w', 4, 1, 4);
        check.run("n1 [ ] o", none, none, 't', 300, 1);
        check.run("n0 [ ] o", none, none, 'w', 3, 0, 0);
        check.run("n1 [ p n0 ] p", none, none, 'o', 6, 0);
        check.run("n1 [ o n0 ] [ n7 o ] p", none, Dojo.row(1), 'o', 7, 0, 1);
    }

    private static void errors() {
        int[] none = Dojo.NO_NUMBERS;
        for (String program : new String[] {"+", "-", "*", "%", "s", "d", "p", "o", "[ ]"}) {
            check.run(program, none, none, 'u', 0, 0);
        }
        for (String program : new String[] {"n0 +", "n0 -", "n0 *", "n0 %", "n0 s"}) {
            check.run(program, none, none, 'u', 1, 1);
        }
        check.run("n1 [ p ]", none, none, 'u', 3, 0);
        check.run("i", none, none, 'e', 0, 0);
        check.run("i i i o", Dojo.row(1, 2), none, 'e', 2, 2);
        check.run("n5 n0 %", none, none, 'z', 2, 2);
        check.run("n1 [ n1 ]", none, none, 'v', 2 + 11 * 2, 12);
        check.run("n1 d d d d d d d d d d d d", none, none, 'v', 12, 12);
        check.run("n1 d d d d d d d d d d d n1", none, none, 'v', 12, 12);
        check.run("n1 d d d d d d d d d d d i", Dojo.row(1), none, 'v', 12, 12);
        check.run("n1 d d d d d d o o o o o o o", none, none, 'l', 13, 1, 1, 1, 1, 1, 1, 1);
    }

    private static void orderOfErrors() {
        // 297 steps up to behind the loop, with 0 on the stack: behind 300 steps, time comes before the other errors.
        String loop = "n59 [ n1 - d p ] ";
        check.run(loop + "n1 p p +", Dojo.NO_NUMBERS, Dojo.NO_NUMBERS, 't', 300, 0);
        check.run(loop + "n1 p n0 %", Dojo.NO_NUMBERS, Dojo.NO_NUMBERS, 't', 300, 2);
        check.run(loop + "n1 n1 n1 i", Dojo.NO_NUMBERS, Dojo.NO_NUMBERS, 't', 300, 4);
        check.run(loop + "n1 p p + +", Dojo.NO_NUMBERS, Dojo.NO_NUMBERS, 't', 300, 0);
        check.run(loop + "n1 p +", Dojo.NO_NUMBERS, Dojo.NO_NUMBERS, 'u', 299, 1);
        check.run("n1 d d d d d d d d d d d i", Dojo.NO_NUMBERS, Dojo.NO_NUMBERS, 'e', 12, 12);
        check.run("n0 %", Dojo.NO_NUMBERS, Dojo.NO_NUMBERS, 'u', 1, 1);
    }

    private static void edgesOfErrors() {
        int[] none = Dojo.NO_NUMBERS;
        // 12 on the stack and 6 in the output are still fine, and s, + and the like need no room.
        check.run("n1 d d d d d d d d d d d s + d", none, none, 'o', 15, 12);
        check.run("n1 d d d d d o o o o o o", none, Dojo.row(1, 1, 1, 1, 1, 1), 'o', 12, 0, 1, 1, 1, 1, 1, 1);
        // What ends behind its 300th step is not cut off.
        check.run("n99 [ n1 - ] p", none, none, 'o', 2 + 99 * 3 + 1, 0);
        check.run("n99 [ n1 - ] p n1", none, none, 't', 300, 0);
        check.run("n100 [ n1 - ] p", none, none, 't', 300, 2);
        check.run("n74 [ n1 - ] p n3", none, none, 'o', 2 + 74 * 3 + 2, 1);
        check.run("n59 [ n1 - d p ] n1 n1 n1", none, none, 'o', 2 + 59 * 5 + 3, 4);
        check.run("n59 [ n1 - d p ] n1 n1 n1 n1", none, none, 't', 300, 4);
    }

    private static void wrongRuns() {
        Katacode x = new Katacode();
        check.refuses("run without katas", Dojo.INDEX, () -> x.run(0, 0));
        x.kata(1);
        check.refuses("run without tests", Dojo.INDEX, () -> x.run(0, 0));
        Dojo.test(x, 0, Dojo.NO_NUMBERS, Dojo.NO_NUMBERS);
        check.refuses("kata -1", Dojo.INDEX, () -> x.run(-1, 0));
        check.refuses("kata 1", Dojo.INDEX, () -> x.run(1, 0));
        check.refuses("test -1", Dojo.INDEX, () -> x.run(0, -1));
        check.refuses("test 1", Dojo.INDEX, () -> x.run(0, 1));
        for (String program : new String[] {"[", "]", "] [", "[ ] ]", "[ [ ]", "[ ] ] [", "n1 ["}) {
            Dojo.type(x, program);
            check.refuses("'" + program + "'", Dojo.UNSUPPORTED, () -> x.run(0, 0));
            check.refuses("no kata before not whole", Dojo.INDEX, () -> x.run(1, 0));
            check.refuses("no test before not whole", Dojo.INDEX, () -> x.run(0, 1));
        }
        check.refuses("done", Dojo.NO_ELEMENT, x::done);
        check.refuses("outputs", Dojo.NO_ELEMENT, x::outputs);
        check.refuses("output", Dojo.NO_ELEMENT, () -> x.output(0));
        check.refuses("depth", Dojo.NO_ELEMENT, x::depth);
    }

    private static void lastRun() {
        Katacode x = Dojo.doubling(1, 1);
        check.refuses("done before a run", Dojo.NO_ELEMENT, x::done);
        check.same("a work", Dojo.submit(x, 0, 0, Dojo.DOUBLE), 0);
        check.refuses("submit is no run", Dojo.NO_ELEMENT, x::done);
        check.same("steps of the work", x.steps(0, 0), 4);
        check.refuses("steps is no run", Dojo.NO_ELEMENT, x::depth);
        check.same("run", Dojo.run(x, 0, 0, "n4 n5 n8 o o"), 'w');
        Dojo.test(x, 0, Dojo.row(1), Dojo.row(2));
        Dojo.submit(x, 0, 0, Dojo.DOUBLE);
        x.isSound();
        x.meanSteps(0);
        x.drop(0);
        Dojo.type(x, "[");
        check.refuses("run that is refused", Dojo.UNSUPPORTED, () -> x.run(0, 0));
        x.wipe();
        check.same("done stays", x.done(), 5);
        check.same("depth stays", x.depth(), 1);
        check.same("outputs stay", x.outputs(), 2);
        check.same("output(0) stays", x.output(0), 8);
        check.same("output(1) stays", x.output(1), 5);
        check.refuses("output(-1)", Dojo.NO_ELEMENT, () -> x.output(-1));
        check.refuses("output(2)", Dojo.NO_ELEMENT, () -> x.output(2));
        check.same("the next run", Dojo.run(x, 0, 0, ""), 'w');
        check.same("done of the next", x.done(), 0);
        check.refuses("output of the next", Dojo.NO_ELEMENT, () -> x.output(0));
    }
}
