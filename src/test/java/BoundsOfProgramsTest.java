/** The boundary cases of 'Programs' and 'Runs', and of promises 1 to 3 and 10 to 14, each with a test of its own. */
public final class BoundsOfProgramsTest {
    private static final Check check = new Check("BoundsOfProgramsTest");
    private static final String LETTERS = "ni+-*%dspo[]";
    private static final int[] NONE = Dojo.NO_NUMBERS;
    // The least int, 256 to the second power times 32768 that wraps, and the greatest one.
    private static final String LEAST = "n256 d * n256 n128 * *";
    private static final String GREATEST = LEAST + " n1 -";
    private static final int MIN = Integer.MIN_VALUE;
    private static final int MAX = Integer.MAX_VALUE;
    // Done in 299 steps, with the 0 on the stack.
    private static final String TO_299 = "n99 [ n1 - ] ";
    // Done in 297 steps, with the 0 on the stack.
    private static final String TO_297 = "n59 [ n1 - d p ] ";
    // Done in 287 steps, with the 0 on the stack.
    private static final String TO_287 = "n95 [ n1 - ] ";
    private static final String SIX_OUTPUTS = "d d d d d d o o o o o o ";

    public static void main(String[] args) {
        nothingYet();
        lettersThatThereAre();
        lettersThatThereAreNot();
        numbersOfN();
        numbersOfNoMeaning();
        twentyFourSteps();
        stepsFromZero();
        wipes();
        additionsThatWrap();
        differencesThatWrap();
        productsThatWrap();
        rests();
        topsAndThoseBelow();
        opensBrackets();
        closesBrackets();
        bracketsAtTheEnds();
        nestedBrackets();
        wholePrograms();
        programsThatAreNotWhole();
        beginsWithAnEmptyStack();
        endsBehindTheLastStep();
        outputsAsExpected();
        threeHundredSteps();
        numbersThatAreNeeded();
        numbersOfTheInput();
        restsByZero();
        twelveOnTheStack();
        sixInTheOutput();
        timeComesFirst();
        neededNumbersComeSecond();
        inputComesBeforeTheStack();
        errorsAreNotDone();
        runsOfNoSuchTest();
        lookingBeforeARun();
        indexesOfOutputs();
        emptyRuns();
        lastRunThatWasAskedFor();
        check.finish();
    }

    private static void nothingYet() {
        check.words("Creates a dojo without katas and members");
        Katacode x = new Katacode();
        check.same("works", x.works(), 0);
        check.same("bodies", x.bodies(), 0);
        check.same("checksum", x.checksum(), 7L);
        check.same("isSound", x.isSound(), true);
        check.same("steps that were typed", x.wipe(), 0);
        check.same("numbers that were typed", x.clear(), 0);
        check.same("the first kata", x.kata(1), 0);
        check.same("the first member", x.member(), 0);
        Katacode y = new Katacode();
        check.refuses("tests of the first kata", Dojo.INDEX, () -> y.tests(0));
        check.refuses("the first member", Dojo.INDEX, () -> y.honour(0));
        check.refuses("the first place", Dojo.NO_ELEMENT, () -> y.ranked(0));
    }

    private static void lettersThatThereAre() {
        check.words("if there is no such letter");
        for (char letter : LETTERS.toCharArray()) {
            check.same("step " + letter, new Katacode().step(letter, 0), 1);
        }
    }

    private static void lettersThatThereAreNot() {
        check.words("if there is no such letter");
        Katacode x = new Katacode();
        int refused = 0;
        for (int letter = 0; letter <= Character.MAX_VALUE; letter++) {
            x = letter % 500 == 0 ? new Katacode() : x;
            if (LETTERS.indexOf(letter) < 0 && isLetterRefused(x, (char) letter)) {
                refused++;
            }
        }
        check.same("letters that are refused", refused, Character.MAX_VALUE + 1 - LETTERS.length());
        check.same("nothing was typed by the last of them", x.wipe(), 0);
    }

    private static boolean isLetterRefused(Katacode x, char letter) {
        try {
            x.step(letter, 0);
            return false;
        } catch (IllegalArgumentException e) {
            return true;
        }
    }

    private static void numbersOfN() {
        check.words("the number, -999 to 999");
        Katacode x = new Katacode();
        check.refuses("n 1000", Dojo.ARGUMENT, () -> x.step('n', 1000));
        check.refuses("n -1000", Dojo.ARGUMENT, () -> x.step('n', -1000));
        check.refuses("n MAX", Dojo.ARGUMENT, () -> x.step('n', MAX));
        check.refuses("n MIN", Dojo.ARGUMENT, () -> x.step('n', MIN));
        check.same("n 999", x.step('n', 999), 1);
        check.same("n -999", x.step('n', -999), 2);
        check.run("n999 o n-999 o", NONE, Dojo.row(999, -999), 'o', 4, 0, 999, -999);
    }

    private static void numbersOfNoMeaning() {
        check.words("of any value if it is of no meaning");
        for (char letter : LETTERS.substring(1).toCharArray()) {
            for (int number : new int[] {1000, -1000, MAX, MIN}) {
                check.same("step " + letter + " " + number, new Katacode().step(letter, number), 1);
            }
        }
        check.words("0 if it is of no meaning");
        Katacode x = Dojo.doubling(1, 1);
        Dojo.submit(x, 0, 0, Dojo.DOUBLE);
        x.wipe();
        for (char letter : "id+o".toCharArray()) {
            x.step(letter, letter % 2 == 0 ? MIN : MAX);
        }
        check.same("a work with numbers of no meaning", x.submit(0, 0), 1);
        check.same("its sum", x.sum(1), x.sum(0));
    }

    private static void twentyFourSteps() {
        check.words("if there are 24");
        for (char last : LETTERS.toCharArray()) {
            Katacode x = new Katacode();
            for (int i = 1; i <= 23; i++) {
                check.same("step " + i, x.step('n', i), i);
            }
            check.same("step 24, " + last, x.step(last, 0), 24);
            for (char letter : LETTERS.toCharArray()) {
                check.refuses("step 25, " + letter, Dojo.STATE, () -> x.step(letter, 0));
            }
            check.same("the 24 are there", x.wipe(), 24);
            check.same("and room for others", x.step(last, 0), 1);
        }
    }

    private static void stepsFromZero() {
        check.words("at most 24 steps, numbered from 0");
        String most = "n6 o" + " n0 p".repeat(11);
        check.run(most, NONE, Dojo.row(6), 'o', 24, 0, 6);
        Katacode x = Dojo.doubling(1, 1);
        Dojo.submit(x, 0, 0, most);
        check.same("how many", x.of(0, 'n'), 24);
        check.same("step 0", x.letter(0, 0), 'n');
        check.same("step 1", x.letter(0, 1), 'o');
        check.same("step 22", x.letter(0, 22), 'n');
        check.same("step 23", x.letter(0, 23), 'p');
        check.refuses("step 24", Dojo.NO_ELEMENT, () -> x.letter(0, 24));
        check.refuses("step -1", Dojo.NO_ELEMENT, () -> x.letter(0, -1));
        // The longest way of a bracket, over all that is between.
        check.run("n0 [" + " p".repeat(21) + " ]", NONE, NONE, 'o', 2, 1);
        check.run("n1 [ p n0" + " d p".repeat(9) + " n0 ]", NONE, NONE, 'o', 24, 2);
    }

    private static void wipes() {
        check.words("Returns how many there were");
        Katacode x = Dojo.doubling(1, 1);
        check.same("wipe of none", x.wipe(), 0);
        x.step('n', 1);
        check.same("wipe of one", x.wipe(), 1);
        check.same("none is left", x.wipe(), 0);
        check.same("nor run", x.run(0, 0), 'w');
        check.same("not one step", x.done(), 0);
    }

    private static void additionsThatWrap() {
        check.words("Numbers are ints that wrap");
        check.run(GREATEST + " n0 + o", NONE, NONE, 'w', 12, 0, MAX);
        check.run(GREATEST + " n1 + o", NONE, NONE, 'w', 12, 0, MIN);
        check.run(LEAST + " n0 + o", NONE, NONE, 'w', 10, 0, MIN);
        check.run(LEAST + " n-1 + o", NONE, NONE, 'w', 10, 0, MAX);
        check.run(LEAST + " d + o", NONE, NONE, 'w', 10, 0, 0);
        check.run(GREATEST + " d + o", NONE, NONE, 'w', 12, 0, -2);
    }

    private static void differencesThatWrap() {
        check.words("Numbers are ints that wrap");
        check.run(LEAST + " n0 - o", NONE, NONE, 'w', 10, 0, MIN);
        check.run(LEAST + " n1 - o", NONE, NONE, 'w', 10, 0, MAX);
        check.run(GREATEST + " n-1 - o", NONE, NONE, 'w', 12, 0, MIN);
        check.run("n0 " + LEAST + " - o", NONE, NONE, 'w', 10, 0, MIN);
        check.run("n-1 " + LEAST + " - o", NONE, NONE, 'w', 10, 0, MAX);
        check.run("n0 " + GREATEST + " - o", NONE, NONE, 'w', 12, 0, -MAX);
    }

    private static void productsThatWrap() {
        check.words("Numbers are ints that wrap");
        check.run("n256 d * d * o", NONE, NONE, 'w', 6, 0, 0);
        check.run("n256 d * n256 n128 * * o", NONE, NONE, 'w', 8, 0, MIN);
        check.run("n256 d * n256 n-128 * * o", NONE, NONE, 'w', 8, 0, MIN);
        check.run(LEAST + " n-1 * o", NONE, NONE, 'w', 10, 0, MIN);
        check.run(GREATEST + " n-1 * o", NONE, NONE, 'w', 12, 0, -MAX);
        check.run(GREATEST + " d * o", NONE, NONE, 'w', 12, 0, 1);
        check.run("n999 d * d * o", NONE, NONE, 'w', 6, 0, (int) (999L * 999 * 999 * 999));
    }

    private static void rests() {
        check.words("'%' its rest, by the top, with the sign of the one below");
        int[] numbers = {-999, -7, -3, -1, 1, 3, 7, 999};
        for (int below : new int[] {-999, -7, -6, -1, 0, 1, 6, 7, 999}) {
            for (int top : numbers) {
                int rest = Math.abs(below) - Math.abs(below) / Math.abs(top) * Math.abs(top);
                int due = below < 0 ? -rest : rest;
                check.run("n" + below + " n" + top + " % o", NONE, NONE, 'w', 4, 0, due);
            }
        }
        check.run(LEAST + " n-1 % o", NONE, NONE, 'w', 10, 0, 0);
        check.run(LEAST + " n999 % o", NONE, NONE, 'w', 10, 0, -(int) (2147483648L % 999));
        check.run(LEAST + " d % o", NONE, NONE, 'w', 10, 0, 0);
        check.run("n5 " + LEAST + " % o", NONE, NONE, 'w', 10, 0, 5);
        check.run("n-5 " + LEAST + " % o", NONE, NONE, 'w', 10, 0, -5);
    }

    private static void topsAndThoseBelow() {
        check.words("push the one below plus, less, times the top");
        check.run("n1 n7 n2 + o o", NONE, Dojo.row(9, 1), 'o', 6, 0, 9, 1);
        check.run("n1 n7 n2 - o o", NONE, Dojo.row(5, 1), 'o', 6, 0, 5, 1);
        check.run("n1 n7 n2 * o o", NONE, Dojo.row(14, 1), 'o', 6, 0, 14, 1);
        check.run("n1 n7 n2 % o o", NONE, Dojo.row(1, 1), 'o', 6, 0, 1, 1);
        check.words("'s' changes the places of the top and the one below, 'p' pops");
        check.run("n1 n7 n2 s o o o", NONE, Dojo.row(7, 2, 1), 'o', 7, 0, 7, 2, 1);
        check.run("n1 n7 n2 p o o", NONE, Dojo.row(7, 1), 'o', 6, 0, 7, 1);
        check.words("'d' pushes the top again");
        check.run("n1 n2 d o o o", NONE, Dojo.row(2, 2, 1), 'o', 6, 0, 2, 2, 1);
        check.words("'o' pops, and puts that behind the output");
        check.run("n1 n2 o o", NONE, Dojo.row(2, 1), 'o', 4, 0, 2, 1);
    }

    private static void opensBrackets() {
        check.words("'[' goes behind the ']' that closes it if the top is 0");
        check.run("n0 [ n5 ] n6", NONE, NONE, 'o', 3, 2);
        check.run("n1 [ n0 ] n6", NONE, NONE, 'o', 5, 3);
        check.run("n-1 [ n0 ] n6", NONE, NONE, 'o', 5, 3);
        check.run(LEAST + " [ n0 ] n6", NONE, NONE, 'o', 11, 3);
        // The product wraps to 0.
        check.run("n256 d * d * [ n5 ] n6", NONE, NONE, 'o', 7, 2);
    }

    private static void closesBrackets() {
        check.words("']' goes behind the '[' that it closes if the top is not 0");
        check.run("n2 [ n1 - ] n6", NONE, NONE, 'o', 9, 2);
        check.run("n-2 [ n1 + ] n6", NONE, NONE, 'o', 9, 2);
        check.run("n1 [ n1 - ] n6", NONE, NONE, 'o', 6, 2);
        // Behind the '[', which is done once alone: 2 + 3 times 5 steps.
        check.run("n2 [ o n-1 d o ] p", NONE, Dojo.row(2, -1, -1, -1, -1, -1), 'l', 17, 1, 2, -1, -1, -1, -1, -1);
        check.run("n1 [ " + LEAST + " n0 ]", NONE, NONE, 'o', 11, 3);
    }

    private static void bracketsAtTheEnds() {
        check.words("goes behind the ']' that closes it");
        check.run("n0 [ ]", NONE, NONE, 'o', 2, 1);
        check.run("n0 [ n5 ]", NONE, NONE, 'o', 2, 1);
        check.run("n1 [ ]", NONE, NONE, 't', 300, 1);
        check.run("[ ]", NONE, NONE, 'u', 0, 0);
        check.words("both leave the stack as it is");
        check.run("n4 n0 [ ] o o", NONE, Dojo.row(0, 4), 'o', 5, 0, 0, 4);
        check.run("n4 n7 [ n0 ] o o o", NONE, Dojo.row(0, 7, 4), 'o', 8, 0, 0, 7, 4);
    }

    private static void nestedBrackets() {
        check.words("the ']' that closes it");
        check.run("n0 [ [ ] ] n4", NONE, NONE, 'o', 3, 2);
        check.run("n0 [ n9 [ ] n9 [ ] n9 ] n4", NONE, NONE, 'o', 3, 2);
        check.run("n1 [ p n0 [ n9 ] ] n4", NONE, NONE, 'o', 7, 2);
        check.run("n2 [ n3 [ n1 - ] p n1 - ] p", NONE, NONE, 'o', 33, 0);
        check.run("n1 [ p n0 ] [ n9 ] n4", NONE, NONE, 'o', 7, 2);
        String deep = "n1" + " [".repeat(11) + " n0" + " ]".repeat(11);
        check.run(deep, NONE, NONE, 'o', 24, 2);
        check.run("n0" + " [".repeat(11) + " n0" + " ]".repeat(11), NONE, NONE, 'o', 2, 1);
    }

    private static void wholePrograms() {
        check.words("is whole if its brackets close each other");
        for (String program : new String[] {"", "n1", "[ ]", "[ ] [ ]", "[ [ ] ]", "[ [ ] [ ] ]", "n1 [ n2 ] n3",
            "[ ".repeat(12) + "] ".repeat(12), "[ ] ".repeat(12)}) {
            Katacode x = challenged();
            Dojo.type(x, program);
            check.same("submit of '" + program + "'", x.submit(0, 0), -1);
            check.same("answer of '" + program + "'", x.answer(0, 0), '-');
            check.same("run of '" + program + "' is done", "owtuezvl".indexOf(x.run(0, 0)) >= 0, true);
        }
    }

    private static void programsThatAreNotWhole() {
        check.words("if it is not whole");
        for (String program : new String[] {"[", "]", "] [", "[ ] ]", "[ [ ]", "[ ] ] [", "[ ] [", "] [ ]", "n6 o [",
            "n6 o ]", "[ ".repeat(24), "] ".repeat(24), "[ ".repeat(12) + "] ".repeat(11), "] ".repeat(12) + "[ ".repeat(12),
            "[ ".repeat(11) + "] ".repeat(13)}) {
            Katacode x = challenged();
            Dojo.type(x, program);
            check.refuses("run of '" + program + "'", Dojo.UNSUPPORTED, () -> x.run(0, 0));
            check.refuses("submit of '" + program + "'", Dojo.UNSUPPORTED, () -> x.submit(0, 0));
            check.refuses("answer of '" + program + "'", Dojo.UNSUPPORTED, () -> x.answer(0, 0));
            check.same("it stays", x.wipe(), program.split(" ").length);
        }
    }

    private static Katacode challenged() {
        Katacode x = Dojo.doubling(2, 1);
        Dojo.submit(x, 0, 0, Dojo.DOUBLE);
        x.drop(0);
        x.challenge(1, 0);
        return x;
    }

    private static void beginsWithAnEmptyStack() {
        check.words("A run begins with an empty stack");
        Katacode x = Dojo.doubling(1, 1);
        check.same("a run that leaves two", Dojo.run(x, 0, 0, "n1 n2"), 'w');
        check.same("depth", x.depth(), 2);
        check.same("the next has none", Dojo.run(x, 0, 0, "p"), 'u');
        check.same("depth of the next", x.depth(), 0);
        check.same("a run with output", Dojo.run(x, 0, 0, "i o n6 o"), 'w');
        check.same("outputs", x.outputs(), 2);
        check.same("the next has its own output and the whole input", Dojo.run(x, 0, 0, Dojo.DOUBLE), 'o');
        check.same("outputs of the next", x.outputs(), 1);
    }

    private static void endsBehindTheLastStep() {
        check.words("ends behind the last step");
        check.run("", NONE, NONE, 'o', 0, 0);
        check.run("n1", NONE, NONE, 'o', 1, 1);
        check.run("n1 o p", NONE, Dojo.row(1), 'u', 2, 0, 1);
    }

    private static void outputsAsExpected() {
        check.words("with 'o' if the output is as expected, else 'w'");
        check.run("", NONE, Dojo.row(0), 'w', 0, 0);
        check.run("n0 o", NONE, NONE, 'w', 2, 0, 0);
        String six = "n1 o n2 o n3 o n4 o n5 o n6 o";
        check.run(six, NONE, Dojo.row(1, 2, 3, 4, 5, 6), 'o', 12, 0, 1, 2, 3, 4, 5, 6);
        check.run(six, NONE, Dojo.row(1, 2, 3, 4, 5), 'w', 12, 0, 1, 2, 3, 4, 5, 6);
        check.run(six, NONE, Dojo.row(1, 2, 3, 4, 5, 7), 'w', 12, 0, 1, 2, 3, 4, 5, 6);
        check.run(six, NONE, Dojo.row(0, 2, 3, 4, 5, 6), 'w', 12, 0, 1, 2, 3, 4, 5, 6);
        check.run("n1 o", NONE, Dojo.row(1, 2), 'w', 2, 0, 1);
        check.run("n1 o", NONE, Dojo.row(1, 0), 'w', 2, 0, 1);
        check.run("n1 o n0 o", NONE, Dojo.row(1), 'w', 4, 0, 1, 0);
        // An output as expected does not help a run that ends with an error, nor does what is left on the stack hurt.
        check.run("n1 o p", NONE, Dojo.row(1), 'u', 2, 0, 1);
        check.run("n1 o n2", NONE, Dojo.row(1), 'o', 3, 1, 1);
    }

    private static void threeHundredSteps() {
        check.words("300 steps were done already");
        check.run(TO_299, NONE, NONE, 'o', 299, 1);
        check.run(TO_299 + "p", NONE, NONE, 'o', 300, 0);
        check.run(TO_299 + "p n1", NONE, NONE, 't', 300, 0);
        check.run(TO_297 + "n1 n1 n1", NONE, NONE, 'o', 300, 4);
        check.run(TO_297 + "n1 n1 n1 n1", NONE, NONE, 't', 300, 4);
        check.run("n1 [ ]", NONE, NONE, 't', 300, 1);
        // The 300th step is a ']' that goes behind the last step, and a ']' that does not.
        check.run("n1 p " + TO_287 + "n3 [ n1 - ]", NONE, NONE, 'o', 300, 2);
        check.run("n1 p " + TO_287 + "n4 [ n1 - ]", NONE, NONE, 't', 300, 2);
    }

    private static void numbersThatAreNeeded() {
        check.words("there are not so many numbers on the stack as the step needs");
        for (String letter : new String[] {"d", "p", "o", "[ ]"}) {
            check.run(letter, NONE, NONE, 'u', 0, 0);
        }
        for (String letter : new String[] {"+", "-", "*", "%", "s"}) {
            check.run(letter, NONE, NONE, 'u', 0, 0);
            check.run("n1 " + letter, NONE, NONE, 'u', 1, 1);
        }
        check.run("n1 d", NONE, NONE, 'o', 2, 2);
        check.run("n1 p", NONE, NONE, 'o', 2, 0);
        check.run("n1 o", NONE, Dojo.row(1), 'o', 2, 0, 1);
        check.run("n0 [ ]", NONE, NONE, 'o', 2, 1);
        check.run("n1 [ p ]", NONE, NONE, 'u', 3, 0);
        check.run("n1 [ p n0 ]", NONE, NONE, 'o', 5, 1);
        for (String letter : new String[] {"+", "-", "*", "%"}) {
            check.run("n3 n2 " + letter, NONE, NONE, 'o', 3, 1);
        }
        check.run("n3 n2 s", NONE, NONE, 'o', 3, 2);
        check.run("n3", NONE, NONE, 'o', 1, 1);
        check.run("i", Dojo.row(3), NONE, 'o', 1, 1);
    }

    private static void numbersOfTheInput() {
        check.words("no number of the input is left");
        int[] input = {4, -999, 999, 0};
        for (int count = 0; count <= 4; count++) {
            int[] numbers = java.util.Arrays.copyOf(input, count);
            check.run("i ".repeat(count), numbers, NONE, 'o', count, count);
            check.run("i ".repeat(count + 1), numbers, NONE, 'e', count, count);
        }
        check.words("'i' the next number of the input");
        check.run("i o i o i o i o", input, input, 'o', 8, 0, input);
    }

    private static void restsByZero() {
        check.words("the rest by 0");
        check.run("n5 n0 %", NONE, NONE, 'z', 2, 2);
        check.run("n0 n0 %", NONE, NONE, 'z', 2, 2);
        check.run("n5 n1 %", NONE, NONE, 'o', 3, 1);
        check.run("n5 n-1 %", NONE, NONE, 'o', 3, 1);
        check.run("n0 n5 %", NONE, NONE, 'o', 3, 1);
        check.run("n0 n5 % n0 +", NONE, NONE, 'o', 5, 1);
    }

    private static void twelveOnTheStack() {
        check.words("there would be more than 12 on the stack");
        String twelve = "n1" + " d".repeat(11);
        check.run(twelve, NONE, NONE, 'o', 12, 12);
        for (String letter : new String[] {"d", "n1", "i"}) {
            check.run("n1" + " d".repeat(10) + " " + letter, Dojo.row(7), NONE, 'o', 12, 12);
            check.run(twelve + " " + letter, Dojo.row(7), NONE, 'v', 12, 12);
        }
        for (String letter : new String[] {"+", "-", "*", "%", "p"}) {
            check.run(twelve + " " + letter, NONE, NONE, 'o', 13, 11);
        }
        check.run(twelve + " o", NONE, Dojo.row(1), 'o', 13, 11, 1);
        check.run(twelve + " s", NONE, NONE, 'o', 13, 12);
        check.run("n0" + " d".repeat(11) + " [ ]", NONE, NONE, 'o', 13, 12);
        check.run(twelve + " p d", NONE, NONE, 'o', 14, 12);
        check.run(twelve + " p d d", NONE, NONE, 'v', 14, 12);
    }

    private static void sixInTheOutput() {
        check.words("more than 6 in the output");
        int[] six = {0, 0, 0, 0, 0, 0};
        check.run("n0 " + SIX_OUTPUTS, NONE, six, 'o', 13, 1, six);
        check.run("n0 " + SIX_OUTPUTS + "o", NONE, six, 'l', 13, 1, six);
        check.run("n0 d d d d o o o o o", NONE, NONE, 'w', 10, 0, 0, 0, 0, 0, 0);
    }

    private static void timeComesFirst() {
        check.words("by the first of these that holds for a step: 't' 300 steps were done already");
        check.run(TO_299 + "+", NONE, NONE, 'u', 299, 1);
        check.run(TO_299 + "p +", NONE, NONE, 't', 300, 0);
        check.run(TO_299 + "i", NONE, NONE, 'e', 299, 1);
        check.run(TO_299 + "d i", NONE, NONE, 't', 300, 2);
        check.run(TO_287 + "p n1 p n1 p n1 p n1 p n0 d d %", NONE, NONE, 'z', 299, 3);
        check.run(TO_299 + "d %", NONE, NONE, 't', 300, 2);
        check.run(TO_287 + "d d d d d d d d d d d d", NONE, NONE, 'v', 298, 12);
        check.run(TO_287 + "p n1 d d d d d d d d d d d d", NONE, NONE, 't', 300, 12);
        check.run(TO_287 + "p n1 d d d d d d d d d d d i", NONE, NONE, 't', 300, 12);
        check.run(TO_287 + SIX_OUTPUTS + "o", NONE, NONE, 'l', 299, 1, 0, 0, 0, 0, 0, 0);
        check.run(TO_287 + SIX_OUTPUTS + "d o", NONE, NONE, 't', 300, 2, 0, 0, 0, 0, 0, 0);
    }

    private static void neededNumbersComeSecond() {
        check.words("'u' there are not so many numbers on the stack as the step needs, 'e'");
        check.run("n0 %", NONE, NONE, 'u', 1, 1);
        check.run("%", NONE, NONE, 'u', 0, 0);
        check.run("n1 d d d d d o o o o o o o", NONE, NONE, 'u', 12, 0, 1, 1, 1, 1, 1, 1);
    }

    private static void inputComesBeforeTheStack() {
        check.words("'e' no number of the input is left, 'z' the rest by 0, 'v'");
        check.run("n1" + " d".repeat(11) + " i", NONE, NONE, 'e', 12, 12);
        check.run("i" + " d".repeat(11) + " i", Dojo.row(1), NONE, 'e', 12, 12);
        check.run("i" + " d".repeat(11) + " i", Dojo.row(1, 2), NONE, 'v', 12, 12);
    }

    private static void errorsAreNotDone() {
        check.words("A step with an error is not done; steps that are done are counted, brackets too");
        check.run("n5 n0 %", NONE, NONE, 'z', 2, 2);
        check.run("n1 n2 + +", NONE, NONE, 'u', 3, 1);
        check.run("n4 d o i o", NONE, NONE, 'e', 3, 1, 4);
        check.run("n0 [ ] [ ] o", NONE, Dojo.row(0), 'o', 4, 0, 0);
        check.run("n1 [ n0 ] o", NONE, Dojo.row(0), 'o', 5, 1, 0);
        Katacode x = Dojo.doubling(1, 1);
        Dojo.submit(x, 0, 0, "n6 o i o");
        Dojo.submit(x, 0, 0, "n6 o i p");
        Dojo.fix(x, 0, 0, NONE, Dojo.row(6));
        check.same("steps up to an error", x.steps(0, 0), 2);
    }

    private static void runsOfNoSuchTest() {
        check.words("if there is no such kata or test");
        Katacode x = new Katacode();
        check.refuses("without katas", Dojo.INDEX, () -> x.run(0, 0));
        x.kata(1);
        x.kata(1);
        check.refuses("without tests", Dojo.INDEX, () -> x.run(0, 0));
        x.test(1);
        check.refuses("of the other kata", Dojo.INDEX, () -> x.run(0, 0));
        for (int index : new int[] {-1, MIN, 2, MAX}) {
            check.refuses("kata " + index, Dojo.INDEX, () -> x.run(index, 0));
        }
        for (int index : new int[] {-1, MIN, 1, 4, 5, MAX}) {
            check.refuses("test " + index, Dojo.INDEX, () -> x.run(1, index));
        }
        check.same("the last one", x.run(1, 0), 'o');
        for (int test = 1; test < 5; test++) {
            x.test(1);
            check.same("the last one", x.run(1, test), 'o');
        }
        check.refuses("test 5 of 5", Dojo.INDEX, () -> x.run(1, 5));
    }

    private static void lookingBeforeARun() {
        check.words("if there was none");
        Katacode x = Dojo.doubling(1, 1);
        Dojo.type(x, "[");
        check.refuses("a run that is refused", Dojo.UNSUPPORTED, () -> x.run(0, 0));
        check.refuses("done", Dojo.NO_ELEMENT, x::done);
        check.refuses("outputs", Dojo.NO_ELEMENT, x::outputs);
        check.refuses("depth", Dojo.NO_ELEMENT, x::depth);
        check.words("if there was no run, or there is no such number");
        check.refuses("output", Dojo.NO_ELEMENT, () -> x.output(0));
        check.refuses("output -1", Dojo.NO_ELEMENT, () -> x.output(-1));
    }

    private static void indexesOfOutputs() {
        check.words("if there was no run, or there is no such number");
        for (int count = 0; count <= 6; count++) {
            Katacode x = Dojo.doubling(1, 1);
            StringBuilder program = new StringBuilder();
            for (int i = 0; i < count; i++) {
                program.append("n").append(10 + i).append(" o ");
            }
            Dojo.run(x, 0, 0, program.toString());
            check.same("outputs", x.outputs(), count);
            for (int i = 0; i < count; i++) {
                check.same("output " + i, x.output(i), 10 + i);
            }
            for (int index : new int[] {-1, count, count + 1, 6, MIN, MAX}) {
                check.refuses("output " + index + " of " + count, Dojo.NO_ELEMENT, () -> x.output(index));
            }
        }
    }

    private static void emptyRuns() {
        check.words("Returns how many steps the last run did");
        Katacode x = Dojo.doubling(1, 1);
        check.same("a run of nothing", x.run(0, 0), 'w');
        check.same("done", x.done(), 0);
        check.same("outputs", x.outputs(), 0);
        check.same("depth", x.depth(), 0);
        check.same("a run with an error at once", Dojo.run(x, 0, 0, "p"), 'u');
        check.same("done", x.done(), 0);
    }

    private static void lastRunThatWasAskedFor() {
        check.words("the last run did that was asked for by run()");
        Katacode x = Dojo.doubling(2, 1);
        check.same("run", Dojo.run(x, 0, 0, "n4 n5 n8 o o"), 'w');
        Dojo.submit(x, 0, 0, Dojo.DOUBLE);
        Dojo.submit(x, 0, 0, "n1 o");
        x.steps(0, 0);
        x.meanSteps(0);
        x.isSound();
        Dojo.test(x, 0, Dojo.row(1), Dojo.row(2));
        Dojo.fix(x, 0, 1, Dojo.row(2), Dojo.row(4));
        x.drop(0);
        x.challenge(1, 0);
        Dojo.type(x, Dojo.DOUBLE);
        x.answer(0, 0);
        Dojo.type(x, "[");
        check.refuses("a run that is not whole", Dojo.UNSUPPORTED, () -> x.run(0, 0));
        x.wipe();
        check.refuses("a run of no test", Dojo.INDEX, () -> x.run(0, 2));
        check.same("done", x.done(), 5);
        check.same("depth", x.depth(), 1);
        check.same("outputs", x.outputs(), 2);
        check.same("output 0", x.output(0), 8);
        check.same("output 1", x.output(1), 5);
        check.same("the next run", x.run(0, 1), 'w');
        check.same("done by the next", x.done(), 0);
        check.refuses("outputs of the next", Dojo.NO_ELEMENT, () -> x.output(0));
    }
}
