/** Promises 27 to 36: copies, votes, reviews, belts and ranks. */
public final class VotesTest {
    private static final Check check = new Check("VotesTest");

    public static void main(String[] args) {
        copies();
        wrongCopies();
        votes();
        weights();
        wrongVotes();
        styles();
        reviews();
        reviewOrder();
        bests();
        pointsOfFloats();
        belts();
        whatCounts();
        ranks();
        check.finish();
    }

    private static void copies() {
        Katacode x = Dojo.doubling(2, 1);
        for (int i = 0; i < 5; i++) {
            Dojo.submit(x, 0, 0, Dojo.DOUBLE);
        }
        check.same("read", x.read(1, 3), 1);
        check.same("read", x.read(1, 1), 2);
        check.same("read again", x.read(1, 3), 2);
        check.same("the oldest", x.copy(1, 0), 1);
        check.same("the newest", x.copy(1, 1), 3);
        check.same("read", x.read(1, 0), 3);
        check.same("one more", x.read(1, 4), 3);
        check.same("the oldest is pushed out", x.copy(1, 0), 3);
        check.same("the second", x.copy(1, 1), 0);
        check.same("the third", x.copy(1, 2), 4);
        check.same("the second is read again", x.read(1, 0), 3);
        check.same("first", x.copy(1, 0), 3);
        check.same("second", x.copy(1, 1), 4);
        check.same("third", x.copy(1, 2), 0);
        check.same("the newest is read again", x.read(1, 0), 3);
        check.same("the newest stays", x.copy(1, 2), 0);
        x.drop(0);
        check.same("a copy stays", x.copy(1, 2), 0);
        check.same("an own one can be read", x.read(0, 2), 1);
        Dojo.test(x, 0, Dojo.row(1), Dojo.row(1));
        check.same("one in f can be read", x.read(0, 3), 2);
    }

    private static void wrongCopies() {
        Katacode x = Dojo.doubling(2, 1);
        Dojo.submit(x, 0, 0, Dojo.DOUBLE);
        Dojo.submit(x, 0, 0, Dojo.DOUBLE);
        x.drop(1);
        check.refuses("read(-1, 0)", Dojo.INDEX, () -> x.read(-1, 0));
        check.refuses("read(2, 0)", Dojo.INDEX, () -> x.read(2, 0));
        check.refuses("read(0, -1)", Dojo.INDEX, () -> x.read(0, -1));
        check.refuses("read(0, 2)", Dojo.INDEX, () -> x.read(0, 2));
        check.refuses("read(2, 1)", Dojo.INDEX, () -> x.read(2, 1));
        check.refuses("read without a body", Dojo.NO_ELEMENT, () -> x.read(0, 1));
        check.refuses("copy of none", Dojo.NO_ELEMENT, () -> x.copy(0, 0));
        x.read(0, 0);
        check.same("copy", x.copy(0, 0), 0);
        check.refuses("copy(0, -1)", Dojo.NO_ELEMENT, () -> x.copy(0, -1));
        check.refuses("copy(0, 1)", Dojo.NO_ELEMENT, () -> x.copy(0, 1));
        check.refuses("copy(-1, 0)", Dojo.INDEX, () -> x.copy(-1, 0));
        check.refuses("copy(2, 5)", Dojo.INDEX, () -> x.copy(2, 5));
        x.drop(0);
        check.refuses("a copy is no body", Dojo.NO_ELEMENT, () -> x.read(0, 0));
    }

    private static void votes() {
        Katacode x = Dojo.doubling(4, 1);
        Dojo.submit(x, 0, 0, Dojo.DOUBLE);
        check.same("vote", x.vote(1, 0, 1), 1);
        check.same("vote", x.vote(2, 0, 5), 1);
        check.same("style", x.style(0, false), 3L);
        check.same("under", x.style(0, true), 1L);
        check.same("voted again", x.vote(1, 0, 2), 1);
        check.same("votes", x.of(0, 'v'), 2);
        check.same("weights", x.of(0, 'w'), 2);
        check.same("style after that", x.style(0, false), 7L);
        check.same("under after that", x.style(0, true), 2L);
        x.drop(0);
        check.same("style without a body", x.style(0, false), 7L);
    }

    private static void weights() {
        Katacode x = Dojo.doubling(3, 4, 4);
        Dojo.submit(x, 0, 0, Dojo.DOUBLE);
        check.same("a vote of belt 0", x.vote(1, 0, 5), 1);
        Dojo.submit(x, 1, 0, Dojo.DOUBLE);
        check.same("belt 1", x.belt(1), 1);
        check.same("its weight stays", x.of(0, 'w'), 1);
        check.same("a vote of belt 1", x.vote(1, 0, 4), 2);
        check.same("its weight is another", x.of(0, 'w'), 2);
        check.same("style", x.style(0, false), 4L);
        check.same("a vote of belt 0", x.vote(2, 0, 3), 1);
        check.same("style above", x.style(0, false), 11L);
        check.same("style under", x.style(0, true), 3L);
        Dojo.submit(x, 1, 1, Dojo.DOUBLE);
        x.vote(2, 2, 2);
        check.same("points", x.points(1), 12.0f);
        check.same("a vote of belt 2", x.vote(1, 0, 1), 3);
        check.same("style of 3 and 3", x.style(0, false), 3L);
        check.same("in lowest terms", x.style(0, true), 2L);
        x.capacity(1);
        check.same("isSound", x.isSound(), true);
    }

    private static void wrongVotes() {
        Katacode x = Dojo.doubling(3, 1, 1);
        Dojo.submit(x, 0, 0, Dojo.DOUBLE);
        Dojo.submit(x, 0, 0, Dojo.DOUBLE);
        Dojo.submit(x, 0, 1, Dojo.SIX);
        Dojo.test(x, 1, Dojo.row(1), Dojo.row(2));
        x.drop(1);
        check.refuses("vote(-1, 0, 1)", Dojo.INDEX, () -> x.vote(-1, 0, 1));
        check.refuses("vote(3, 0, 1)", Dojo.INDEX, () -> x.vote(3, 0, 1));
        check.refuses("vote(1, -1, 1)", Dojo.INDEX, () -> x.vote(1, -1, 1));
        check.refuses("vote(1, 3, 1)", Dojo.INDEX, () -> x.vote(1, 3, 1));
        check.refuses("vote(1, 3, 0)", Dojo.INDEX, () -> x.vote(1, 3, 0));
        check.refuses("style 0", Dojo.ARGUMENT, () -> x.vote(1, 0, 0));
        check.refuses("style 6", Dojo.ARGUMENT, () -> x.vote(1, 0, 6));
        check.refuses("style 6 for the own one", Dojo.ARGUMENT, () -> x.vote(0, 0, 6));
        check.refuses("the own one", Dojo.UNSUPPORTED, () -> x.vote(0, 0, 1));
        check.refuses("in p", Dojo.UNSUPPORTED, () -> x.vote(1, 1, 1));
        check.refuses("in f", Dojo.UNSUPPORTED, () -> x.vote(1, 2, 1));
        x.challenge(1, 1);
        check.refuses("in c", Dojo.UNSUPPORTED, () -> x.vote(1, 1, 1));
        x.drop(2);
        check.refuses("in b", Dojo.UNSUPPORTED, () -> x.vote(1, 2, 1));
        check.same("no vote was counted", x.of(0, 'v') + x.of(1, 'v') + x.of(2, 'v'), 0);
    }

    private static void styles() {
        Katacode x = Dojo.doubling(10, 1);
        Dojo.submit(x, 0, 0, Dojo.DOUBLE);
        check.same("above without votes", x.style(0, false), 1L);
        check.same("under without votes", x.style(0, true), 1L);
        int[] votes = {4, 4, 2, 5, 5, 1, 3, 2, 4};
        long sum = 0;
        for (int i = 0; i < votes.length; i++) {
            x.vote(i + 1, 0, votes[i]);
            sum += votes[i];
            check.same("the fraction", x.style(0, false) * (i + 1), x.style(0, true) * sum);
            long above = x.style(0, false);
            long under = x.style(0, true);
            for (long divisor = 2; divisor <= under; divisor++) {
                check.same("is divided by " + divisor, above % divisor == 0 && under % divisor == 0, false);
            }
        }
        check.refuses("style(-1)", Dojo.INDEX, () -> x.style(-1, false));
        check.refuses("style(1)", Dojo.INDEX, () -> x.style(1, true));
    }

    private static void reviews() {
        Katacode x = Dojo.doubling(3, 1);
        check.refuses("without works", Dojo.NO_ELEMENT, () -> x.review(0));
        Dojo.submit(x, 0, 0, Dojo.DOUBLE);
        check.refuses("the own one", Dojo.NO_ELEMENT, () -> x.review(0));
        check.same("one of another", x.review(1), 0);
        x.vote(1, 0, 1);
        check.refuses("one that is voted on", Dojo.NO_ELEMENT, () -> x.review(1));
        check.same("of who did not vote", x.review(2), 0);
        Dojo.fix(x, 0, 0, Dojo.row(1), Dojo.row(1));
        check.refuses("one in f", Dojo.NO_ELEMENT, () -> x.review(2));
        Dojo.fix(x, 0, 0, Dojo.row(1), Dojo.row(2));
        check.same("in s again", x.review(2), 0);
        x.drop(0);
        check.refuses("one in p", Dojo.NO_ELEMENT, () -> x.review(2));
        check.refuses("review(-1)", Dojo.INDEX, () -> x.review(-1));
        check.refuses("review(3)", Dojo.INDEX, () -> x.review(3));
    }

    private static void reviewOrder() {
        Katacode x = Dojo.doubling(3, 3, 2, 2);
        Dojo.submit(x, 0, 0, Dojo.DOUBLE);
        check.same("the only one", x.review(1), 0);
        Dojo.submit(x, 0, 2, Dojo.DOUBLE);
        Dojo.submit(x, 0, 1, Dojo.DOUBLE);
        check.same("the lowest level, then the lowest number", x.review(1), 1);
        x.vote(2, 1, 5);
        check.same("fewer votes", x.review(1), 2);
        x.vote(2, 2, 5);
        check.same("fewer votes before a lower level", x.review(1), 0);
        x.vote(2, 0, 5);
        check.same("as many votes", x.review(1), 1);
        x.vote(1, 1, 5);
        check.same("not the one that is voted on", x.review(1), 2);
    }

    private static void bests() {
        Katacode x = Dojo.doubling(3, 1, 1);
        check.refuses("best without works", Dojo.NO_ELEMENT, () -> x.best(0, 0));
        for (int i = 0; i < 4; i++) {
            Dojo.submit(x, 0, 0, i == 2 ? Dojo.SIX : Dojo.DOUBLE);
        }
        check.same("the lowest number", x.best(0, 0), 0);
        check.refuses("best of another", Dojo.NO_ELEMENT, () -> x.best(1, 0));
        check.refuses("best for another kata", Dojo.NO_ELEMENT, () -> x.best(0, 1));
        x.vote(1, 1, 1);
        check.same("as great without votes as with 1", x.best(0, 0), 0);
        x.vote(1, 2, 4);
        x.vote(1, 3, 4);
        check.same("the greatest style", x.best(0, 0), 2);
        x.vote(2, 2, 3);
        check.same("7 by 2 is less than 4", x.best(0, 0), 3);
        x.vote(2, 2, 5);
        check.same("9 by 2 is more than 4", x.best(0, 0), 2);
        x.drop(2);
        check.same("one in p counts", x.best(0, 0), 2);
        x.vote(2, 3, 5);
        check.same("of two the lowest number", x.best(0, 0), 2);
        x.challenge(1, 2);
        check.same("one in c counts", x.best(0, 0), 2);
        x.days(7);
        check.same("one in b does not", x.best(0, 0), 3);
        Dojo.test(x, 0, Dojo.row(1), Dojo.row(1));
        check.refuses("one in f does not", Dojo.NO_ELEMENT, () -> x.best(0, 0));
        check.refuses("best(-1, 0)", Dojo.INDEX, () -> x.best(-1, 0));
        check.refuses("best(3, 0)", Dojo.INDEX, () -> x.best(3, 0));
        check.refuses("best(0, -1)", Dojo.INDEX, () -> x.best(0, -1));
        check.refuses("best(0, 2)", Dojo.INDEX, () -> x.best(0, 2));
    }

    private static void pointsOfFloats() {
        Katacode x = Dojo.doubling(4, 5, 4, 1, 3);
        Dojo.submit(x, 0, 2, Dojo.DOUBLE);
        check.same("the level without votes", x.points(0), 1.0f);
        Dojo.submit(x, 0, 1, Dojo.DOUBLE);
        Dojo.submit(x, 0, 0, Dojo.DOUBLE);
        check.same("the levels", x.points(0), 10.0f);
        int[][] votes = {{2, 2}, {1, 1, 2}, {5, 5, 5}};
        for (int work = 0; work < votes.length; work++) {
            for (int voter = 0; voter < votes[work].length; voter++) {
                x.vote(voter + 1, work, votes[work][voter]);
            }
        }
        float due = ((0.0f + 75.0f / 3.0f) + 16.0f / 3.0f) + 4.0f / 2.0f;
        check.same("by rising katas", x.points(0), due);
        check.same("another order answers otherwise", due == (2.0f + 16.0f / 3.0f) + 25.0f, false);
        Katacode y = Dojo.doubling(4, 5);
        Dojo.submit(y, 0, 0, Dojo.DOUBLE);
        y.vote(1, 0, 1);
        y.vote(2, 0, 1);
        y.vote(3, 0, 2);
        check.same("the product first", y.points(0), 20.0f / 3.0f);
        check.same("the quotient first answers otherwise", 20.0f / 3.0f == 5.0f * (4.0f / 3.0f), false);
        check.refuses("points(-1)", Dojo.INDEX, () -> x.points(-1));
        check.refuses("points(4)", Dojo.INDEX, () -> x.points(4));
    }

    /** The belt of a member with a work in each kata, of which the first has a vote of a style. */
    private static int beltFor(int style, int... levels) {
        Katacode x = Dojo.doubling(2, levels);
        for (int kata = 0; kata < levels.length; kata++) {
            Dojo.submit(x, 0, kata, Dojo.DOUBLE);
        }
        x.vote(1, 0, style);
        check.same("isSound", x.isSound(), true);
        return x.belt(0);
    }

    private static void belts() {
        check.same("3 points", beltFor(1, 3), 0);
        check.same("4 points", beltFor(1, 4), 1);
        check.same("25 points of one kata", beltFor(5, 5), 1);
        check.same("11 points of two katas", beltFor(2, 4, 3), 1);
        check.same("12 points of two katas", beltFor(2, 4, 4), 2);
        check.same("23 points of three katas", beltFor(3, 5, 4, 4), 2);
        check.same("24 points of three katas", beltFor(3, 5, 5, 4), 3);
        check.same("30 points of two katas", beltFor(5, 5, 5), 2);
        check.same("39 points of four katas", beltFor(5, 5, 5, 5, 4), 3);
        check.same("40 points of four katas", beltFor(5, 5, 5, 5, 5), 4);
        check.same("3 points of three katas", beltFor(1, 1, 1, 1), 0);
        check.same("4 points of four katas", beltFor(1, 1, 1, 1, 1), 1);
        check.same("59 points of eight katas", beltFor(5, 5, 5, 5, 5, 5, 5, 5, 4), 4);
        check.same("60 points of eight katas", beltFor(5, 5, 5, 5, 5, 5, 5, 5, 5), 5);
        Katacode x = Dojo.doubling(3, 5, 5, 5, 5, 5, 5, 5, 5);
        for (int kata = 0; kata < 8; kata++) {
            Dojo.submit(x, 0, kata, Dojo.DOUBLE);
            x.vote(1, kata, 5);
            check.same("25 points each", x.points(0), 25.0f * (kata + 1));
            check.same("as many katas as the belt", x.belt(0), Math.min(kata + 1, 5));
        }
        Dojo.submit(x, 1, 0, Dojo.DOUBLE);
        check.same("the greatest weight", x.vote(0, 8, 2), 6);
        check.same("isSound", x.isSound(), true);
        check.refuses("belt(-1)", Dojo.INDEX, () -> x.belt(-1));
        check.refuses("belt(3)", Dojo.INDEX, () -> x.belt(3));
        check.refuses("honour(-1)", Dojo.INDEX, () -> x.honour(-1));
        check.refuses("honour(3)", Dojo.INDEX, () -> x.honour(3));
    }

    private static void whatCounts() {
        Katacode x = Dojo.doubling(2, 5);
        Dojo.submit(x, 0, 0, Dojo.SIX);
        check.same("in s", x.belt(0), 1);
        Dojo.fix(x, 0, 0, Dojo.row(1), Dojo.row(2));
        check.same("in f", x.belt(0), 0);
        check.same("points in f", x.points(0), 0.0f);
        Dojo.fix(x, 0, 0, Dojo.row(1), Dojo.row(6));
        check.same("in s again", x.belt(0), 1);
        x.drop(0);
        check.same("in p", x.belt(0), 1);
        Dojo.fix(x, 0, 0, Dojo.row(1), Dojo.row(2));
        check.same("in p whatever the tests are", x.belt(0), 1);
        x.challenge(1, 0);
        check.same("in c", x.points(0), 5.0f);
        x.days(7);
        check.same("in b", x.belt(0), 0);
    }

    private static void ranks() {
        Katacode x = Dojo.doubling(5, 5, 1, 3);
        for (int place = 0; place < 5; place++) {
            check.same("by numbers at first", x.ranked(place), place);
        }
        Dojo.submit(x, 4, 0, Dojo.DOUBLE);
        Dojo.submit(x, 2, 1, Dojo.DOUBLE);
        Dojo.submit(x, 3, 2, Dojo.DOUBLE);
        int[] due = {4, 3, 2, 0, 1};
        for (int place = 0; place < 5; place++) {
            check.same("by points at place " + place, x.ranked(place), due[place]);
        }
        // 25 points of one kata make belt 1 only, 15 of two make belt 2.
        x.vote(0, 0, 5);
        Dojo.submit(x, 3, 0, Dojo.DOUBLE);
        x.vote(0, 2, 4);
        check.same("points of 4", x.points(4), 25.0f);
        check.same("points of 3", x.points(3), 17.0f);
        check.same("by belts first", x.ranked(0), 3);
        check.same("then", x.ranked(1), 4);
        check.refuses("ranked(-1)", Dojo.NO_ELEMENT, () -> x.ranked(-1));
        check.refuses("ranked(5)", Dojo.NO_ELEMENT, () -> x.ranked(5));
        check.refuses("ranked(MAX)", Dojo.NO_ELEMENT, () -> x.ranked(Integer.MAX_VALUE));
    }
}
