/** The boundary cases of 'Votes', 'Belts' and 'Reviews', and of promises 29 to 36. */
public final class BoundsOfVotesTest {
    private static final Check check = new Check("BoundsOfVotesTest");
    private static final int MIN = Integer.MIN_VALUE;
    private static final int MAX = Integer.MAX_VALUE;

    public static void main(String[] args) {
        stylesInRange();
        stylesOutOfRange();
        votesForTheOwnOne();
        votesWithoutABody();
        votesInF();
        weightsOfAllBelts();
        weightThatFalls();
        weightsThatStay();
        votesAgain();
        nineVoters();
        styleWithoutVotes();
        stylesInLowestTerms();
        stylesWeighed();
        styleOfTheGreatest();
        styleWithoutABody();
        reviewsOfNone();
        reviewsOfWhatOneCouldVoteOn();
        fewestVotes();
        lowestLevel();
        lowestNumber();
        reviewsOfAll();
        bestOfNone();
        bestOfEachKata();
        greatestStyle();
        styleOneLikeNoVotes();
        asGreatAStyle();
        bestOfWhatCounts();
        pointsOfNone();
        pointsWithoutVotes();
        pointsAsFloats();
        pointsByRisingKatas();
        beltOne();
        beltTwo();
        beltThree();
        beltFour();
        beltFive();
        beltsByFloats();
        beltsByWorksOfOneKata();
        honourAtFirst();
        placesOfNone();
        placesByNumbers();
        placesByPoints();
        placesByBelts();
        check.finish();
    }

    private static void stylesInRange() {
        check.words("the style of a work of another one, 1 to 5");
        for (int style = 1; style <= 5; style++) {
            Katacode x = Dojo.doubling(2, 1);
            Dojo.submit(x, 0, 0, Dojo.DOUBLE);
            check.same("a vote of " + style, x.vote(1, 0, style), 1);
            check.same("its style", x.style(0, false), (long) style);
            check.same("its style under", x.style(0, true), 1L);
        }
    }

    private static void stylesOutOfRange() {
        check.words("if the style is out of range");
        Katacode x = Dojo.doubling(2, 1);
        Dojo.submit(x, 0, 0, Dojo.DOUBLE);
        for (int style : new int[] {0, 6, -1, MIN, MAX}) {
            check.refuses("a vote of " + style, Dojo.ARGUMENT, () -> x.vote(1, 0, style));
        }
        check.same("votes", x.of(0, 'v'), 0);
        x.vote(1, 0, 2);
        check.refuses("a vote of 0 instead", Dojo.ARGUMENT, () -> x.vote(1, 0, 0));
        check.same("the vote stays", x.style(0, false), 2L);
    }

    private static void votesForTheOwnOne() {
        check.words("if it is the own one");
        Katacode x = Dojo.doubling(3, 1);
        Dojo.submit(x, 1, 0, Dojo.DOUBLE);
        check.refuses("the own one", Dojo.UNSUPPORTED, () -> x.vote(1, 0, 5));
        check.same("of one before", x.vote(0, 0, 5), 1);
        check.same("of one behind", x.vote(2, 0, 5), 1);
        Dojo.submit(x, 1, 0, Dojo.DOUBLE);
        check.refuses("another own one", Dojo.UNSUPPORTED, () -> x.vote(1, 1, 5));
    }

    private static void votesWithoutABody() {
        check.words("as long as it has a body");
        Katacode x = Dojo.doubling(3, 1);
        Dojo.submit(x, 0, 0, Dojo.DOUBLE);
        x.vote(1, 0, 2);
        x.read(2, 0);
        x.drop(0);
        check.refuses("in p", Dojo.UNSUPPORTED, () -> x.vote(2, 0, 5));
        check.refuses("in p, a vote again", Dojo.UNSUPPORTED, () -> x.vote(1, 0, 5));
        x.challenge(1, 0);
        check.refuses("in c", Dojo.UNSUPPORTED, () -> x.vote(2, 0, 5));
        x.give(2, 0);
        check.same("in s again, the vote is there", x.style(0, false), 2L);
        check.same("in s again", x.vote(2, 0, 5), 1);
        x.drop(0);
        x.challenge(1, 0);
        x.days(7);
        check.refuses("in b", Dojo.UNSUPPORTED, () -> x.vote(2, 0, 5));
        check.same("the votes are there in b", x.of(0, 'v'), 2);
    }

    private static void votesInF() {
        check.words("and is not in 'f'");
        Katacode x = Dojo.doubling(2, 1);
        Dojo.submit(x, 0, 0, Dojo.SIX);
        Dojo.fix(x, 0, 0, Dojo.row(3), Dojo.row(7));
        check.refuses("in f", Dojo.UNSUPPORTED, () -> x.vote(1, 0, 5));
        check.same("votes", x.of(0, 'v'), 0);
        Dojo.fix(x, 0, 0, Dojo.row(3), Dojo.row(6));
        check.same("in s again", x.vote(1, 0, 5), 1);
    }

    /** Member 1 rises from belt 0 to belt 5 by works in one kata after the other. */
    private static Katacode risen(int belts) {
        Katacode x = Dojo.doubling(4, 5, 5, 5, 5, 5, 5);
        x.capacity(40);
        Dojo.submit(x, 0, 0, Dojo.DOUBLE);
        for (int belt = 0; belt < belts; belt++) {
            rise(x, belt);
        }
        return x;
    }

    private static void rise(Katacode x, int belt) {
        x.submit(1, belt);
        x.vote(2, x.works() - 1, 5);
    }

    private static void weightsOfAllBelts() {
        check.words("the vote weighs 1 more than the belt that the member has then");
        Katacode x = risen(0);
        for (int belt = 0; belt <= 5; belt++) {
            check.same("belt", x.belt(1), belt);
            check.same("vote of belt " + belt, x.vote(1, 0, 3), belt + 1);
            check.same("weights", x.of(0, 'w'), belt + 1);
            check.same("votes", x.of(0, 'v'), 1);
            rise(x, belt);
        }
        check.same("no belt above 5", x.belt(1), 5);
        check.same("no weight above 6", x.vote(1, 0, 3), 6);
    }

    private static void weightThatFalls() {
        check.words("Who votes again on it changes the vote, and its weight");
        Katacode x = risen(2);
        check.same("a vote of belt 2", x.vote(1, 0, 5), 3);
        check.same("a vote of belt 0", x.vote(3, 0, 1), 1);
        check.same("above", x.style(0, false), 4L);
        Dojo.fix(x, 1, 0, Dojo.row(3), Dojo.row(7));
        check.same("belt", x.belt(1), 1);
        check.same("weights stay", x.of(0, 'w'), 4);
        check.same("a vote of belt 1", x.vote(1, 0, 5), 2);
        check.same("weights", x.of(0, 'w'), 3);
        check.same("above", x.style(0, false), 11L);
        check.same("under", x.style(0, true), 3L);
    }

    private static void weightsThatStay() {
        check.words("the belt that the member has then");
        Katacode x = risen(0);
        x.vote(1, 0, 5);
        for (int belt = 0; belt < 5; belt++) {
            rise(x, belt);
        }
        check.same("belt", x.belt(1), 5);
        check.same("the weight stays", x.of(0, 'w'), 1);
        x.vote(3, 0, 1);
        check.same("above", x.style(0, false), 3L);
        check.same("under", x.style(0, true), 1L);
    }

    private static void votesAgain() {
        check.words("Who votes again on it changes the vote");
        Katacode x = Dojo.doubling(3, 1);
        Dojo.submit(x, 0, 0, Dojo.DOUBLE);
        x.vote(2, 0, 4);
        for (int style : new int[] {1, 5, 3, 3}) {
            x.vote(1, 0, style);
            check.same("votes", x.of(0, 'v'), 2);
            check.same("weights", x.of(0, 'w'), 2);
            check.same("style twice", 2 * x.style(0, false), x.style(0, true) * (style + 4));
        }
    }

    private static void nineVoters() {
        check.words("A member, at most 10");
        Katacode x = Dojo.doubling(10, 1);
        Dojo.submit(x, 9, 0, Dojo.DOUBLE);
        for (int member = 0; member < 9; member++) {
            check.same("vote", x.vote(member, 0, 5), 1);
        }
        check.same("votes", x.of(0, 'v'), 9);
        check.same("style", x.style(0, false), 5L);
        check.same("under", x.style(0, true), 1L);
        for (int member = 0; member < 10; member++) {
            int reviewer = member;
            check.refuses("none is left to review", Dojo.NO_ELEMENT, () -> x.review(reviewer));
        }
    }

    private static void styleWithoutVotes() {
        check.words("1 without votes");
        Katacode x = Dojo.doubling(1, 5);
        Dojo.submit(x, 0, 0, Dojo.DOUBLE);
        check.same("above", x.style(0, false), 1L);
        check.same("under", x.style(0, true), 1L);
        x.drop(0);
        check.same("without a body", x.style(0, false), 1L);
    }

    private static void stylesInLowestTerms() {
        check.words("as a fraction in lowest terms");
        int[][] cases = {{1, 1}, {5}, {1, 2}, {2, 2}, {1, 3}, {1, 1, 1}, {1, 1, 2}, {1, 2, 3}, {5, 5, 5, 5}, {5, 5, 5, 3},
            {4, 5, 5, 3, 1}, {5, 5, 5, 5, 1, 1}, {1, 1, 1, 1, 1, 1, 1, 1, 1}, {5, 5, 5, 5, 5, 5, 5, 5, 4},
            {5, 1, 1, 1, 1, 1, 1, 1}, {5, 5, 1, 1, 1, 1, 1, 1, 1}};
        long[][] due = {{1, 1}, {5, 1}, {3, 2}, {2, 1}, {2, 1}, {1, 1}, {4, 3}, {2, 1}, {5, 1}, {9, 2},
            {18, 5}, {11, 3}, {1, 1}, {44, 9}, {3, 2}, {17, 9}};
        for (int i = 0; i < cases.length; i++) {
            Katacode x = Dojo.doubling(10, 1);
            Dojo.submit(x, 0, 0, Dojo.DOUBLE);
            for (int voter = 0; voter < cases[i].length; voter++) {
                x.vote(voter + 1, 0, cases[i][voter]);
            }
            check.same("above of case " + i, x.style(0, false), due[i][0]);
            check.same("under of case " + i, x.style(0, true), due[i][1]);
        }
    }

    private static void stylesWeighed() {
        check.words("the sum of its votes times their weights, divided by the sum of weights");
        Katacode x = risen(3);
        x.vote(1, 0, 5);
        x.vote(2, 0, 1);
        check.same("4 times 5 and 1, by 5", x.style(0, false), 21L);
        check.same("under", x.style(0, true), 5L);
        x.vote(3, 0, 3);
        check.same("24 by 6 above", x.style(0, false), 4L);
        check.same("24 by 6 under", x.style(0, true), 1L);
        check.same("the sum of weights", x.of(0, 'w'), 6);
    }

    private static void styleOfTheGreatest() {
        check.words("divided by the sum of weights");
        Katacode x = risen(5);
        x.vote(1, 0, 5);
        check.same("30 by 6", x.style(0, false), 5L);
        x.vote(2, 0, 4);
        check.same("34 by 7 above", x.style(0, false), 34L);
        check.same("34 by 7 under", x.style(0, true), 7L);
    }

    private static void styleWithoutABody() {
        check.words("Returns the style of a work");
        Katacode x = Dojo.doubling(3, 1);
        Dojo.submit(x, 0, 0, Dojo.DOUBLE);
        x.vote(1, 0, 2);
        x.vote(2, 0, 5);
        x.drop(0);
        check.same("in p above", x.style(0, false), 7L);
        x.challenge(1, 0);
        check.same("in c under", x.style(0, true), 2L);
        x.days(7);
        check.same("in b above", x.style(0, false), 7L);
        check.same("in b under", x.style(0, true), 2L);
    }

    private static void reviewsOfNone() {
        check.words("Throws NoSuchElementException if there is none");
        Katacode x = Dojo.doubling(2, 1);
        check.refuses("without works", Dojo.NO_ELEMENT, () -> x.review(0));
        Dojo.submit(x, 0, 0, Dojo.DOUBLE);
        check.refuses("with an own one alone", Dojo.NO_ELEMENT, () -> x.review(0));
        check.same("the other member", x.review(1), 0);
        x.vote(1, 0, 1);
        check.refuses("with one that has the vote", Dojo.NO_ELEMENT, () -> x.review(1));
    }

    private static void reviewsOfWhatOneCouldVoteOn() {
        check.words("of those on which this one could vote and has not voted");
        Katacode x = Dojo.doubling(3, 1);
        for (int i = 0; i < 5; i++) {
            Dojo.submit(x, 0, 0, i == 1 ? Dojo.SIX : Dojo.DOUBLE);
        }
        Dojo.fix(x, 0, 0, Dojo.row(1), Dojo.row(2));
        x.drop(0);
        x.drop(2);
        x.challenge(2, 2);
        check.same("in s, not in p, f or c", x.review(1), 3);
        x.vote(1, 3, 1);
        check.same("not the one with the vote", x.review(1), 4);
        x.vote(1, 4, 1);
        check.refuses("none", Dojo.NO_ELEMENT, () -> x.review(1));
        Dojo.fix(x, 0, 0, Dojo.row(3), Dojo.row(6));
        check.same("in s again", x.review(1), 1);
        Dojo.type(x, Dojo.DOUBLE);
        x.answer(1, 2);
        check.same("of two", x.review(1), 1);
        x.vote(1, 1, 1);
        check.same("the one that was in c", x.review(1), 2);
    }

    private static void fewestVotes() {
        check.words("that with the fewest votes");
        Katacode x = Dojo.doubling(5, 1, 2);
        Dojo.submit(x, 0, 0, Dojo.DOUBLE);
        Dojo.submit(x, 0, 0, Dojo.DOUBLE);
        Dojo.submit(x, 0, 1, Dojo.DOUBLE);
        int[] due = {0, 1, 2, 0, 1, 2};
        for (int i = 0; i < due.length; i++) {
            check.same("review " + i, x.review(4), due[i]);
            x.vote(1 + i / 3, due[i], 5 - i % 3);
        }
        x.vote(1, 0, 1);
        check.same("a vote again does not count", x.review(4), 0);
    }

    private static void lowestLevel() {
        check.words("then with the lowest level of its kata");
        Katacode x = Dojo.doubling(3, 5, 4, 3, 2, 1);
        for (int kata = 0; kata < 5; kata++) {
            Dojo.submit(x, 0, kata, Dojo.DOUBLE);
            check.same("the lowest level up to now", x.review(1), kata);
        }
        for (int kata = 4; kata >= 0; kata--) {
            check.same("of those that are left", x.review(1), kata);
            x.vote(1, kata, 1);
        }
        check.same("of all with one vote", x.review(2), 4);
    }

    private static void lowestNumber() {
        check.words("then with the lowest number");
        Katacode x = Dojo.doubling(2, 2, 2);
        Dojo.submit(x, 0, 1, Dojo.DOUBLE);
        Dojo.submit(x, 0, 0, Dojo.DOUBLE);
        Dojo.submit(x, 0, 0, Dojo.DOUBLE);
        for (int work = 0; work < 3; work++) {
            check.same("review", x.review(1), work);
            x.vote(1, work, 5);
        }
    }

    private static void reviewsOfAll() {
        check.words("Returns the next work to review");
        Katacode x = Dojo.doubling(2, 1);
        x.capacity(40);
        Dojo.type(x, Dojo.DOUBLE);
        for (int i = 0; i < 40; i++) {
            x.submit(0, 0);
        }
        for (int i = 0; i < 40; i++) {
            check.same("review", x.review(1), i);
            x.vote(1, i, 1);
        }
        check.refuses("none is left", Dojo.NO_ELEMENT, () -> x.review(1));
    }

    private static void bestOfNone() {
        check.words("Returns the work of a member that is taken for a kata");
        Katacode x = Dojo.doubling(2, 1, 1);
        check.refuses("without works", Dojo.NO_ELEMENT, () -> x.best(0, 0));
        Dojo.submit(x, 0, 0, Dojo.DOUBLE);
        check.same("one", x.best(0, 0), 0);
        check.refuses("of another member", Dojo.NO_ELEMENT, () -> x.best(1, 0));
        check.refuses("for another kata", Dojo.NO_ELEMENT, () -> x.best(0, 1));
        for (int kata : new int[] {-1, 2, 7, 8, MIN, MAX}) {
            check.refuses("for kata " + kata, Dojo.INDEX, () -> x.best(0, kata));
        }
    }

    private static void bestOfEachKata() {
        check.words("For each kata, of the works of a member that count");
        Katacode x = Dojo.doubling(2, 1, 1, 1, 1, 1, 1, 1, 1);
        for (int kata = 7; kata >= 0; kata--) {
            Dojo.submit(x, 0, kata, Dojo.DOUBLE);
        }
        Dojo.submit(x, 1, 3, Dojo.DOUBLE);
        for (int kata = 0; kata < 8; kata++) {
            check.same("best for kata " + kata, x.best(0, kata), 7 - kata);
        }
        check.same("best of the other", x.best(1, 3), 8);
        check.same("points", x.points(0), 8.0f);
    }

    private static void greatestStyle() {
        check.words("that with the greatest style is taken");
        Katacode x = Dojo.doubling(10, 1);
        for (int i = 0; i < 3; i++) {
            Dojo.submit(x, 0, 0, Dojo.DOUBLE);
        }
        // 40 by 9, 31 by 7 and 22 by 5 are close to each other.
        int[][] votes = {{5, 5, 5, 5, 5, 5, 5, 4, 1}, {5, 5, 5, 5, 5, 5, 1}, {5, 5, 5, 5, 2}};
        for (int work = 0; work < 3; work++) {
            for (int voter = 0; voter < votes[work].length; voter++) {
                x.vote(voter + 1, work, votes[work][voter]);
            }
        }
        check.same("40 by 9 is more than 31 by 7 and 22 by 5", x.best(0, 0), 0);
        x.vote(9, 1, 5);
        check.same("36 by 8 is more than 40 by 9", x.best(0, 0), 1);
        x.vote(9, 2, 5);
        check.same("as great as 27 by 6, the lower number", x.best(0, 0), 1);
        x.vote(5, 2, 3);
        check.same("28 by 6", x.best(0, 0), 2);
    }

    private static void styleOneLikeNoVotes() {
        check.words("of several the lowest number");
        Katacode x = Dojo.doubling(2, 1);
        Dojo.submit(x, 0, 0, Dojo.DOUBLE);
        Dojo.submit(x, 0, 0, Dojo.DOUBLE);
        x.vote(1, 1, 1);
        check.same("1 without votes, and 1 by a vote", x.best(0, 0), 0);
        x.vote(1, 1, 2);
        check.same("2 by a vote", x.best(0, 0), 1);
        x.vote(1, 0, 2);
        check.same("2 and 2", x.best(0, 0), 0);
        x.vote(1, 0, 1);
        check.same("1 and 2", x.best(0, 0), 1);
    }

    private static void asGreatAStyle() {
        check.words("of several the lowest number");
        Katacode x = Dojo.doubling(5, 1);
        for (int i = 0; i < 4; i++) {
            Dojo.submit(x, 0, 0, Dojo.DOUBLE);
        }
        x.vote(1, 1, 3);
        x.vote(1, 2, 2);
        x.vote(2, 2, 4);
        x.vote(1, 3, 1);
        x.vote(2, 3, 4);
        x.vote(3, 3, 4);
        check.same("3, 6 by 2 and 9 by 3", x.best(0, 0), 1);
        x.vote(1, 1, 2);
        check.same("6 by 2 and 9 by 3", x.best(0, 0), 2);
    }

    private static void bestOfWhatCounts() {
        check.words("of the works of a member that count");
        Katacode x = Dojo.doubling(2, 1);
        for (int i = 0; i < 4; i++) {
            Dojo.submit(x, 0, 0, i == 0 ? Dojo.SIX : Dojo.DOUBLE);
            x.vote(1, i, 5 - i);
        }
        check.same("of all in s", x.best(0, 0), 0);
        Dojo.fix(x, 0, 0, Dojo.row(1), Dojo.row(2));
        check.same("the first in f", x.best(0, 0), 1);
        x.drop(1);
        check.same("the second in p", x.best(0, 0), 1);
        x.challenge(1, 1);
        check.same("the second in c", x.best(0, 0), 1);
        x.days(7);
        check.same("the second in b", x.best(0, 0), 2);
        check.same("points", x.points(0), 3.0f);
    }

    private static void pointsOfNone() {
        check.words("Points are 0.0f at first");
        Katacode x = Dojo.doubling(2, 5);
        check.same("without works", x.points(0), 0.0f);
        check.same("belt without works", x.belt(0), 0);
        Dojo.submit(x, 0, 0, Dojo.SIX);
        check.same("of another", x.points(1), 0.0f);
        Dojo.fix(x, 0, 0, Dojo.row(3), Dojo.row(7));
        check.same("with one in f", x.points(0), 0.0f);
        Katacode y = new Katacode();
        y.member();
        check.same("without katas", y.points(0), 0.0f);
    }

    private static void pointsWithoutVotes() {
        check.words("the level times 1 as a float without votes");
        for (int level = 1; level <= 5; level++) {
            Katacode x = Dojo.doubling(2, level);
            Dojo.submit(x, 0, 0, Dojo.DOUBLE);
            check.same("level " + level, x.points(0), (float) level);
            x.vote(1, 0, 1);
            check.same("with a vote of 1", x.points(0), (float) level);
            x.vote(1, 0, 5);
            check.same("with a vote of 5", x.points(0), (float) (5 * level));
        }
    }

    /** A dojo where member 0 has a work in each kata: each row is its level, and then the votes of others of belt 0. */
    private static Katacode voted(int[]... katas) {
        Katacode x = new Katacode();
        Dojo.members(x, 10);
        Dojo.type(x, Dojo.DOUBLE);
        for (int kata = 0; kata < katas.length; kata++) {
            Dojo.test(x, x.kata(katas[kata][0]), Dojo.row(3), Dojo.row(6));
            x.submit(0, kata);
            for (int voter = 1; voter < katas[kata].length; voter++) {
                x.vote(voter, kata, katas[kata][voter]);
            }
        }
        return x;
    }

    private static void pointsAsFloats() {
        check.words("an int, as a float, is, divided by the sum of weights as a float");
        check.same("5 times 4 by 3", voted(Dojo.row(5, 1, 1, 2)).points(0), 20.0f / 3.0f);
        check.same("the product comes first", 20.0f / 3.0f == 5.0f * (4.0f / 3.0f), false);
        check.same("3 times 31 by 7", voted(Dojo.row(3, 5, 5, 5, 5, 5, 5, 1)).points(0), 93.0f / 7.0f);
        check.same("1 times 17 by 9", voted(Dojo.row(1, 5, 5, 1, 1, 1, 1, 1, 1, 1)).points(0), 17.0f / 9.0f);
        check.same("not in double", (double) (17.0f / 9.0f) == 17.0 / 9.0, false);
    }

    private static void pointsByRisingKatas() {
        check.words("by rising katas, they become themselves plus");
        int[][] katas = {Dojo.row(5, 5, 5, 5), Dojo.row(4, 1, 1, 2), Dojo.row(1, 2, 2)};
        float rising = ((0.0f + 75.0f / 3.0f) + 16.0f / 3.0f) + 4.0f / 2.0f;
        float falling = ((0.0f + 4.0f / 2.0f) + 16.0f / 3.0f) + 75.0f / 3.0f;
        check.same("the order tells", rising == falling, false);
        check.same("as the katas rise", voted(katas).points(0), rising);
        check.same("the other way", voted(katas[2], katas[1], katas[0]).points(0), falling);
    }

    private static void belt(int due, float points, int[]... katas) {
        Katacode x = voted(katas);
        check.same("points", x.points(0), points);
        check.same("belt of " + points + " points by " + katas.length, x.belt(0), due);
        check.same("isSound", x.isSound(), true);
    }

    private static int[][] times(int count, int... kata) {
        int[][] katas = new int[count][];
        java.util.Arrays.fill(katas, kata);
        return katas;
    }

    private static int[][] more(int[][] katas, int... kata) {
        int[][] all = java.util.Arrays.copyOf(katas, katas.length + 1);
        all[katas.length] = kata;
        return all;
    }

    private static void beltOne() {
        check.words("at least as many such katas, and points of at least 2 times the belt, times 1 more than the belt");
        belt(0, 0.0f);
        belt(0, 1.0f, Dojo.row(1));
        belt(0, 3.0f, Dojo.row(3));
        belt(0, 15.0f / 4.0f, Dojo.row(3, 1, 1, 1, 2));
        belt(1, 4.0f, Dojo.row(4));
        belt(1, 4.0f, Dojo.row(3, 1, 1, 2));
        belt(1, 25.0f, Dojo.row(5, 5));
        belt(0, 3.0f, times(3, 1));
        belt(1, 4.0f, times(4, 1));
    }

    private static void beltTwo() {
        check.words("at least as many such katas, and points of at least 2 times the belt, times 1 more than the belt");
        belt(2, 12.0f, times(2, 3, 2));
        belt(1, 6.0f + 16.0f / 3.0f, Dojo.row(3, 2), Dojo.row(4, 1, 1, 2));
        belt(1, 11.0f, Dojo.row(2), Dojo.row(3, 3));
        belt(2, 50.0f, times(2, 5, 5));
        belt(1, 25.0f, times(1, 5, 5));
        belt(2, 12.0f, times(6, 2));
    }

    private static void beltThree() {
        check.words("at least as many such katas, and points of at least 2 times the belt, times 1 more than the belt");
        belt(3, 24.0f, times(3, 4, 2));
        belt(2, 23.5f, more(times(2, 4, 2), 5, 1, 2));
        belt(3, 75.0f, times(3, 5, 5));
        belt(2, 23.0f, more(more(times(2, 4, 2), 1, 5, 5), 2));
        belt(3, 24.0f, times(8, 3));
    }

    private static void beltFour() {
        check.words("at least as many such katas, and points of at least 2 times the belt, times 1 more than the belt");
        belt(4, 40.0f, times(4, 5, 2));
        belt(3, 39.0f, more(times(3, 5, 2), 3, 3));
        belt(3, 75.0f, times(3, 5, 5));
        belt(4, 100.0f, times(4, 5, 5));
        belt(4, 40.0f, times(8, 5));
        belt(3, 39.0f, more(times(7, 5), 4));
    }

    private static void beltFive() {
        check.words("The belt is the greatest one, 0 to 5");
        belt(5, 60.0f, times(5, 4, 3));
        belt(4, 48.0f + 35.0f / 3.0f, more(times(4, 4, 3), 5, 2, 2, 3));
        belt(4, 100.0f, times(4, 5, 5));
        belt(5, 125.0f, times(5, 5, 5));
        belt(5, 200.0f, times(8, 5, 5));
        belt(4, 59.0f, more(more(times(6, 4, 2), 5, 2), 1));
        belt(5, 60.0f, more(more(times(6, 4, 2), 5, 2), 2));
    }

    private static void beltsByFloats() {
        check.words("points of at least");
        // In doubles it would be 12 and a little, in fractions 12.
        belt(1, (2.0f + 20.0f / 3.0f) + 10.0f / 3.0f, Dojo.row(2), Dojo.row(5, 1, 1, 2), Dojo.row(2, 1, 2, 2));
        check.same("less than 12", (2.0f + 20.0f / 3.0f) + 10.0f / 3.0f < 12.0f, true);
        // In doubles it would be a little less than 12.
        belt(2, (2.0f + 22.0f / 3.0f) + 8.0f / 3.0f, Dojo.row(2), Dojo.row(2, 5, 5, 1), Dojo.row(2, 1, 1, 2));
        check.same("in doubles", (2.0 + 22.0 / 3.0) + 8.0 / 3.0 < 12.0, true);
    }

    private static void beltsByWorksOfOneKata() {
        check.words("such katas");
        Katacode x = Dojo.doubling(2, 5, 5);
        for (int i = 0; i < 5; i++) {
            Dojo.submit(x, 0, 0, Dojo.DOUBLE);
            x.vote(1, i, 5);
        }
        check.same("five works of one kata", x.belt(0), 1);
        check.same("points of one", x.points(0), 25.0f);
        Dojo.submit(x, 0, 1, Dojo.DOUBLE);
        check.same("a work of another kata", x.belt(0), 2);
        check.same("points of two", x.points(0), 30.0f);
    }

    private static void honourAtFirst() {
        check.words("Each member has 10 honour at first");
        Katacode x = Dojo.doubling(10, 1);
        for (int member = 0; member < 10; member++) {
            check.same("honour", x.honour(member), 10);
        }
        Dojo.submit(x, 0, 0, Dojo.DOUBLE);
        x.vote(1, 0, 5);
        x.read(1, 0);
        x.drop(0);
        check.same("of who submits", x.honour(0), 10);
        check.same("of who votes and reads", x.honour(1), 10);
    }

    private static void placesOfNone() {
        check.words("if there is no such place");
        for (int members : new int[] {0, 1, 9, 10}) {
            Katacode x = new Katacode();
            Dojo.members(x, members);
            for (int place : new int[] {-1, members, members + 1, MIN, MAX}) {
                check.refuses("ranked(" + place + ") of " + members, Dojo.NO_ELEMENT, () -> x.ranked(place));
            }
            if (members > 0) {
                check.same("the last place", x.ranked(members - 1), members - 1);
            }
        }
    }

    private static void ranks(Katacode x, int... due) {
        for (int place = 0; place < due.length; place++) {
            check.same("place " + place, x.ranked(place), due[place]);
        }
    }

    private static void placesByNumbers() {
        check.words("then by numbers");
        Katacode x = Dojo.doubling(10, 1);
        ranks(x, 0, 1, 2, 3, 4, 5, 6, 7, 8, 9);
        for (int member = 9; member >= 0; member--) {
            Dojo.submit(x, member, 0, Dojo.DOUBLE);
        }
        ranks(x, 0, 1, 2, 3, 4, 5, 6, 7, 8, 9);
    }

    private static void placesByPoints() {
        check.words("then points, both more first");
        Katacode x = Dojo.doubling(10, 1, 2, 3);
        Dojo.submit(x, 9, 2, Dojo.DOUBLE);
        Dojo.submit(x, 4, 1, Dojo.DOUBLE);
        Dojo.submit(x, 7, 0, Dojo.DOUBLE);
        Dojo.submit(x, 0, 0, Dojo.DOUBLE);
        check.same("no belts", x.belt(9) + x.belt(4) + x.belt(7) + x.belt(0), 0);
        ranks(x, 9, 4, 0, 7, 1, 2, 3, 5, 6, 8);
        x.vote(1, 2, 2);
        x.vote(2, 2, 3);
        check.same("points of a half", x.points(7), 2.5f);
        ranks(x, 9, 7, 4, 0, 1, 2, 3, 5, 6, 8);
    }

    private static void placesByBelts() {
        check.words("by belts, then points, both more first");
        Katacode x = Dojo.doubling(4, 5, 3, 3);
        Dojo.submit(x, 1, 0, Dojo.DOUBLE);
        x.vote(0, 0, 5);
        Dojo.submit(x, 3, 1, Dojo.DOUBLE);
        Dojo.submit(x, 3, 2, Dojo.DOUBLE);
        x.vote(0, 1, 2);
        x.vote(0, 2, 2);
        check.same("belt of 25 points", x.belt(1), 1);
        check.same("belt of 12 points", x.belt(3), 2);
        ranks(x, 3, 1, 0, 2);
        x.vote(0, 2, 1);
        check.same("belt of 9 points", x.belt(3), 1);
        ranks(x, 1, 3, 0, 2);
    }
}
