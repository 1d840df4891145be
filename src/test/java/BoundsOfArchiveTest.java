/** The boundary cases of 'Archive', and of promises 24 to 28: drops, room, and copies. */
public final class BoundsOfArchiveTest {
    private static final Check check = new Check("BoundsOfArchiveTest");
    private static final int MIN = Integer.MIN_VALUE;
    private static final int MAX = Integer.MAX_VALUE;

    public static void main(String[] args) {
        dropsWithoutABody();
        dropsDownToNone();
        roomForTwelve();
        capacitiesInRange();
        capacitiesOutOfRange();
        roomForOne();
        roomForForty();
        roomForAsMany();
        oneByOne();
        thoseInFFirst();
        leastSumOfWeights();
        sumsOfWeightsAreNotVotes();
        lowestNumbers();
        leastWeightsOfThoseInF();
        roomOfANewWork();
        roomThatATestDoesNotMake();
        roomIsAskedAsItIsThen();
        whatIsKept();
        brokenByBeingDropped();
        bodiesOfNone();
        readsWithoutABody();
        readsOfAnyBody();
        threeCopies();
        readAgain();
        copiesOfEachMember();
        copiesStay();
        copiesOfTheirWorks();
        indexesOfCopies();
        check.finish();
    }

    private static Katacode dojoOf(int works, int members) {
        Katacode x = Dojo.doubling(members, 1);
        Dojo.type(x, Dojo.DOUBLE);
        for (int i = 0; i < works; i++) {
            x.submit(0, 0);
        }
        return x;
    }

    /** The states of all works in a row. */
    private static String states(Katacode x) {
        StringBuilder states = new StringBuilder();
        for (int i = 0; i < x.works(); i++) {
            states.append(x.state(i));
        }
        return states.toString();
    }

    private static void dropsWithoutABody() {
        check.words("if it has no body");
        Katacode x = dojoOf(3, 2);
        x.drop(0);
        check.refuses("in p", Dojo.UNSUPPORTED, () -> x.drop(0));
        x.challenge(1, 0);
        check.refuses("in c", Dojo.UNSUPPORTED, () -> x.drop(0));
        x.days(7);
        check.refuses("in b by the days", Dojo.UNSUPPORTED, () -> x.drop(0));
        Dojo.fix(x, 0, 0, Dojo.row(3), Dojo.row(7));
        x.drop(1);
        check.refuses("in b by a drop", Dojo.UNSUPPORTED, () -> x.drop(1));
        check.same("in f", x.drop(2), 0);
        check.same("states", states(x), "bbb");
    }

    private static void dropsDownToNone() {
        check.words("Returns how many bodies are left");
        Katacode x = dojoOf(12, 1);
        for (int i = 11; i >= 0; i--) {
            check.same("drop", x.drop(i), i);
            check.same("bodies", x.bodies(), i);
        }
        check.same("states", states(x), "p".repeat(12));
    }

    private static void roomForTwelve() {
        check.words("It has room for some bodies, 12 at first");
        Katacode x = dojoOf(12, 1);
        check.same("12 bodies", x.bodies(), 12);
        check.same("12 works", states(x), "s".repeat(12));
        check.same("work 13", x.submit(0, 0), 12);
        check.same("12 bodies of 13", x.bodies(), 12);
        check.same("13 works", states(x), "p" + "s".repeat(12));
    }

    private static void capacitiesInRange() {
        check.words("how many, 1 to 40");
        for (int bodies : new int[] {1, 2, 12, 39, 40}) {
            check.same("capacity(" + bodies + ")", new Katacode().capacity(bodies), 0);
        }
    }

    private static void capacitiesOutOfRange() {
        check.words("if it is out of range");
        Katacode x = dojoOf(2, 1);
        for (int bodies : new int[] {0, 41, -1, MIN, MAX}) {
            check.refuses("capacity(" + bodies + ")", Dojo.ARGUMENT, () -> x.capacity(bodies));
        }
        check.same("nothing was dropped", x.bodies(), 2);
        for (int i = 2; i < 13; i++) {
            x.submit(0, 0);
        }
        check.same("there is room for 12 as before", x.bodies(), 12);
    }

    private static void roomForOne() {
        check.words("Returns how many are dropped by that");
        Katacode x = dojoOf(12, 1);
        check.same("capacity(1)", x.capacity(1), 11);
        check.same("states", states(x), "p".repeat(11) + "s");
        x.submit(0, 0);
        check.same("the next work takes the room", states(x), "p".repeat(12) + "s");
        check.same("bodies", x.bodies(), 1);
    }

    private static void roomForForty() {
        check.words("Sets how many bodies there is room for");
        Katacode x = Dojo.doubling(1, 1);
        x.capacity(40);
        Dojo.type(x, Dojo.DOUBLE);
        for (int i = 0; i < 40; i++) {
            x.submit(0, 0);
        }
        check.same("all have their bodies", x.bodies(), 40);
        check.same("capacity(39)", x.capacity(39), 1);
        check.same("capacity(40)", x.capacity(40), 0);
        check.same("what was dropped is not back", x.bodies(), 39);
        check.same("the first was dropped", x.state(0), 'p');
    }

    private static void roomForAsMany() {
        check.words("As there are more, one by one is dropped");
        Katacode x = dojoOf(5, 1);
        check.same("room for one more", x.capacity(6), 0);
        check.same("room for as many", x.capacity(5), 0);
        check.same("room for one less", x.capacity(4), 1);
        check.same("room for two less", x.capacity(2), 2);
        check.same("states", states(x), "pppss");
    }

    private static void oneByOne() {
        check.words("one by one is dropped");
        for (int bodies = 1; bodies <= 5; bodies++) {
            Katacode x = dojoOf(5, 1);
            check.same("capacity(" + bodies + ")", x.capacity(bodies), 5 - bodies);
            check.same("states", states(x), "p".repeat(5 - bodies) + "s".repeat(bodies));
        }
    }

    private static void thoseInFFirst() {
        check.words("those in 'f' first");
        Katacode x = Dojo.doubling(3, 1);
        Dojo.submit(x, 0, 0, Dojo.DOUBLE);
        Dojo.submit(x, 0, 0, Dojo.DOUBLE);
        Dojo.submit(x, 0, 0, Dojo.SIX);
        x.vote(1, 2, 5);
        x.vote(2, 2, 5);
        Dojo.test(x, 0, Dojo.row(1), Dojo.row(2));
        check.same("the one in f", x.capacity(2), 1);
        check.same("though it has votes, and the highest number", states(x), "ssb");
        check.same("the next", x.capacity(1), 1);
        check.same("the lowest number", states(x), "psb");
    }

    private static void leastSumOfWeights() {
        check.words("then those with the least sum of the weights of their votes");
        Katacode x = dojoOf(4, 4);
        int[] votes = {3, 1, 0, 2};
        for (int work = 0; work < 4; work++) {
            for (int voter = 1; voter <= votes[work]; voter++) {
                x.vote(voter, work, 5 - votes[work]);
            }
        }
        x.capacity(3);
        check.same("without votes", states(x), "ssps");
        x.capacity(2);
        check.same("with one", states(x), "spps");
        x.capacity(1);
        check.same("with two", states(x), "sppp");
    }

    private static void sumsOfWeightsAreNotVotes() {
        check.words("the least sum of the weights of their votes");
        Katacode x = Dojo.doubling(5, 5, 5);
        Dojo.submit(x, 3, 0, Dojo.DOUBLE);
        Dojo.submit(x, 3, 1, Dojo.DOUBLE);
        x.vote(4, 0, 5);
        check.same("the belt of who votes", x.belt(3), 2);
        Dojo.submit(x, 0, 0, Dojo.DOUBLE);
        Dojo.submit(x, 0, 0, Dojo.DOUBLE);
        check.same("one vote of 3", x.vote(3, 2, 1), 3);
        x.vote(1, 3, 5);
        x.vote(2, 3, 5);
        x.drop(0);
        x.drop(1);
        x.capacity(1);
        check.same("two votes of 1 weigh less", states(x), "ppsp");
    }

    private static void lowestNumbers() {
        check.words("then those with the lowest numbers");
        Katacode x = dojoOf(4, 3);
        for (int work = 3; work >= 1; work--) {
            x.vote(1, work, 5);
        }
        x.vote(2, 0, 1);
        for (int bodies = 3; bodies >= 1; bodies--) {
            x.capacity(bodies);
            check.same("states", states(x), "p".repeat(4 - bodies) + "s".repeat(bodies));
        }
    }

    private static void leastWeightsOfThoseInF() {
        check.words("those in 'f' first, then those with the least sum of the weights of their votes");
        Katacode x = Dojo.doubling(3, 1);
        Dojo.type(x, Dojo.SIX);
        for (int i = 0; i < 4; i++) {
            x.submit(0, 0);
        }
        x.vote(1, 0, 1);
        x.vote(1, 1, 1);
        Dojo.test(x, 0, Dojo.row(1), Dojo.row(2));
        check.same("all in f", states(x), "ffff");
        x.capacity(3);
        check.same("no votes, of two the lower", states(x), "ffbf");
        x.capacity(2);
        check.same("no votes", states(x), "ffbb");
        x.capacity(1);
        check.same("of two with a vote the lower", states(x), "bfbb");
    }

    private static void roomOfANewWork() {
        check.words("As there are more, one by one is dropped");
        Katacode x = dojoOf(12, 2);
        for (int work = 0; work < 12; work++) {
            x.vote(1, work, 1);
        }
        check.same("a work that has the least votes itself", x.submit(0, 0), 12);
        check.same("is dropped at once", x.state(12), 'p');
        check.same("with its sum", x.sum(12), x.sum(0));
        check.same("and its steps", x.steps(12, 0), 4);
        check.same("the others stay", states(x), "s".repeat(12) + "p");
        check.refuses("its letters", Dojo.NO_ELEMENT, () -> x.letter(12, 0));
    }

    private static void roomThatATestDoesNotMake() {
        check.words("As there are more");
        Katacode x = Dojo.doubling(1, 1);
        Dojo.type(x, Dojo.SIX);
        for (int i = 0; i < 12; i++) {
            x.submit(0, 0);
        }
        Dojo.test(x, 0, Dojo.row(1), Dojo.row(2));
        check.same("those in f stay as there is room", states(x), "f".repeat(12));
        check.same("as many as the room", x.capacity(12), 0);
        Dojo.submit(x, 0, 0, Dojo.DOUBLE);
        check.same("one more, and one of them is broken", states(x), "b" + "f".repeat(11) + "s");
    }

    private static void roomIsAskedAsItIsThen() {
        check.words("Sets how many bodies there is room for");
        Katacode x = dojoOf(3, 1);
        x.capacity(3);
        x.submit(0, 0);
        check.same("bodies of a small room", x.bodies(), 3);
        x.capacity(4);
        x.submit(0, 0);
        check.same("bodies of a greater one", x.bodies(), 4);
        x.drop(4);
        x.submit(0, 0);
        check.same("bodies after a drop", x.bodies(), 4);
        check.same("states", states(x), "psssps");
    }

    private static void whatIsKept() {
        check.words("A work that is dropped loses its body; what is kept is its sum");
        Katacode x = dojoOf(1, 1);
        Dojo.test(x, 0, Dojo.row(1), Dojo.row(2));
        long sum = x.sum(0);
        x.drop(0);
        check.same("no body", x.hasBody(0), false);
        check.same("the sum", x.sum(0), sum);
        check.same("how many steps", x.of(0, 'n'), 4);
        check.same("the steps of each test", x.steps(0, 0) + x.steps(0, 1), 8);
        check.refuses("no letter", Dojo.NO_ELEMENT, () -> x.letter(0, 0));
        check.refuses("nothing to read", Dojo.NO_ELEMENT, () -> x.read(0, 0));
    }

    private static void brokenByBeingDropped() {
        check.words("One in 'f' is broken by that");
        Katacode x = Dojo.doubling(2, 1);
        Dojo.type(x, Dojo.SIX);
        for (int i = 0; i < 3; i++) {
            x.submit(0, 0);
        }
        Dojo.fix(x, 0, 0, Dojo.row(1), Dojo.row(2));
        x.drop(1);
        check.same("by drop", states(x), "fbf");
        check.same("by room, told as dropped", x.capacity(1), 1);
        check.same("states", states(x), "bbf");
        check.same("nobody gets honour", x.honour(0) + x.honour(1), 20);
    }

    private static void bodiesOfNone() {
        check.words("Returns how many bodies there are");
        Katacode x = new Katacode();
        check.same("without works", x.bodies(), 0);
        Katacode y = dojoOf(1, 1);
        check.same("of one", y.bodies(), 1);
        Dojo.fix(y, 0, 0, Dojo.row(3), Dojo.row(7));
        check.same("one in f", y.bodies(), 1);
        y.drop(0);
        check.same("of none left", y.bodies(), 0);
    }

    private static void readsWithoutABody() {
        check.words("if it has no body");
        Katacode x = dojoOf(2, 3);
        x.read(2, 0);
        x.drop(0);
        check.refuses("in p", Dojo.NO_ELEMENT, () -> x.read(1, 0));
        check.refuses("in p, of who has a copy", Dojo.NO_ELEMENT, () -> x.read(2, 0));
        x.challenge(1, 0);
        check.refuses("in c", Dojo.NO_ELEMENT, () -> x.read(1, 0));
        x.days(7);
        check.refuses("in b", Dojo.NO_ELEMENT, () -> x.read(1, 0));
        check.same("the first copy", x.read(1, 1), 1);
        check.same("the second one", x.read(2, 1), 2);
    }

    private static void readsOfAnyBody() {
        check.words("Reads a body, and keeps a copy");
        Katacode x = dojoOf(2, 2);
        check.same("of another", x.read(1, 0), 1);
        check.same("of the own one", x.read(0, 0), 1);
        Dojo.fix(x, 0, 0, Dojo.row(3), Dojo.row(7));
        check.same("of one in f", x.read(1, 1), 2);
        check.same("the body is still there", x.bodies(), 2);
    }

    private static String copies(Katacode x, int member, int count) {
        StringBuilder copies = new StringBuilder();
        for (int i = 0; i < count; i++) {
            copies.append(x.copy(member, i));
        }
        check.refuses("no more copies", Dojo.NO_ELEMENT, () -> x.copy(member, count));
        return copies.toString();
    }

    private static void threeCopies() {
        check.words("each has at most 3, and one more pushes out the oldest");
        Katacode x = dojoOf(6, 1);
        check.same("of none", copies(x, 0, 0), "");
        check.same("read", x.read(0, 4), 1);
        check.same("of one", copies(x, 0, 1), "4");
        check.same("read", x.read(0, 2), 2);
        check.same("of two", copies(x, 0, 2), "42");
        check.same("read", x.read(0, 5), 3);
        check.same("of three", copies(x, 0, 3), "425");
        check.same("read", x.read(0, 0), 3);
        check.same("the oldest is out", copies(x, 0, 3), "250");
        check.same("read", x.read(0, 4), 3);
        check.same("it can be read anew", copies(x, 0, 3), "504");
    }

    private static void readAgain() {
        check.words("to read again a work of which one has a copy makes it the newest");
        Katacode x = dojoOf(4, 1);
        x.read(0, 1);
        check.same("the only one", x.read(0, 1), 1);
        check.same("it stays", copies(x, 0, 1), "1");
        x.read(0, 2);
        check.same("the older of two", x.read(0, 1), 2);
        check.same("they change places", copies(x, 0, 2), "21");
        check.same("the newer of two", x.read(0, 1), 2);
        check.same("they stay", copies(x, 0, 2), "21");
        x.read(0, 3);
        check.same("the oldest of three", x.read(0, 2), 3);
        check.same("it is the newest", copies(x, 0, 3), "132");
        check.same("the one between", x.read(0, 3), 3);
        check.same("it is the newest", copies(x, 0, 3), "123");
        check.same("the newest of three", x.read(0, 3), 3);
        check.same("they stay", copies(x, 0, 3), "123");
        check.same("another one", x.read(0, 0), 3);
        check.same("pushes out the oldest", copies(x, 0, 3), "230");
    }

    private static void copiesOfEachMember() {
        check.words("each has at most 3");
        Katacode x = dojoOf(4, 10);
        for (int member = 0; member < 10; member++) {
            for (int i = 0; i < 3; i++) {
                check.same("read", x.read(member, (member + i) % 4), i + 1);
            }
        }
        for (int member = 0; member < 10; member++) {
            String due = "" + member % 4 + (member + 1) % 4 + (member + 2) % 4;
            check.same("copies of member " + member, copies(x, member, 3), due);
        }
    }

    private static void copiesStay() {
        check.words("Copies of a body that members have read stay");
        Katacode x = dojoOf(2, 3);
        x.read(2, 0);
        x.drop(0);
        check.same("in p", copies(x, 2, 1), "0");
        x.challenge(1, 0);
        check.same("in c", copies(x, 2, 1), "0");
        Dojo.type(x, "n6 o");
        check.same("the body is given, whatever is typed", x.give(2, 0), 's');
        check.same("given", copies(x, 2, 1), "0");
        check.same("letter 3", x.letter(0, 3), 'o');
        x.drop(0);
        x.challenge(1, 0);
        x.days(7);
        check.same("in b", copies(x, 2, 1), "0");
        x.read(2, 1);
        check.same("beside another", copies(x, 2, 2), "01");
    }

    /** Whatever the places are that copies come to, each is the body of its work. */
    private static void copiesOfTheirWorks() {
        check.words("to read again a work of which one has a copy makes it the newest");
        String[] bodies = {Dojo.DOUBLE, Dojo.DOUBLE_BY_TWO, Dojo.SIX, "n2 n3 * o"};
        int[][] reads = {{0, 1, 2}, {0, 1, 2, 0}, {0, 1, 2, 1}, {0, 1, 2, 2}, {0, 1, 0}, {0, 1, 2, 3}, {0, 1, 2, 3, 1, 0}};
        for (int[] read : reads) {
            Katacode x = Dojo.doubling(3, 1);
            for (int work = 0; work < 4; work++) {
                Dojo.submit(x, 0, 0, bodies[work]);
            }
            int count = 0;
            for (int work : read) {
                count = x.read(2, work);
            }
            for (int i = 0; i < count; i++) {
                int work = x.copy(2, i);
                x.drop(work);
                x.challenge(1, work);
                check.same("give " + work, x.give(2, work), 's');
                check.same("steps of " + work, x.steps(work, 0), bodies[work].split(" ").length);
                for (int step = 0; step < x.steps(work, 0); step++) {
                    char due = bodies[work].split(" ")[step].charAt(0);
                    check.same("letter " + step + " of " + work, x.letter(work, step), due);
                }
                check.same("isSound", x.isSound(), true);
            }
        }
    }

    private static void indexesOfCopies() {
        check.words("if there is no such copy");
        Katacode x = dojoOf(4, 2);
        for (int index : new int[] {0, -1, 2, 3, MIN, MAX}) {
            check.refuses("copy " + index + " of none", Dojo.NO_ELEMENT, () -> x.copy(0, index));
        }
        for (int i = 0; i < 4; i++) {
            int count = x.read(0, i);
            check.same("the newest", x.copy(0, count - 1), i);
            for (int index : new int[] {-1, count, count + 1, MIN, MAX}) {
                check.refuses("copy " + index + " of " + count, Dojo.NO_ELEMENT, () -> x.copy(0, index));
            }
        }
        check.refuses("of another member", Dojo.NO_ELEMENT, () -> x.copy(1, 0));
    }
}
