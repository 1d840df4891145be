/** Dojos in which calls are refused: always the same ones, so that two of a kind are alike. */
final class Scenes {
    private Scenes() {
    }

    static Katacode empty() {
        return new Katacode();
    }

    /** 3 katas, the second without tests; 4 members; works 0 to 5 in s, f, p, c, b and s, all of member 0 but the last. */
    static Katacode midway() {
        Katacode x = new Katacode();
        Dojo.members(x, 4);
        x.kata(2);
        x.kata(1);
        x.kata(3);
        Dojo.test(x, 0, Dojo.row(3), Dojo.row(6));
        Dojo.test(x, 2, Dojo.row(3), Dojo.row(6));
        for (int work = 0; work < 5; work++) {
            Dojo.submit(x, 0, 0, work == 1 || work == 4 ? Dojo.SIX : Dojo.DOUBLE);
        }
        Dojo.submit(x, 1, 2, Dojo.DOUBLE);
        x.vote(1, 0, 4);
        x.vote(2, 0, 3);
        x.vote(0, 5, 5);
        x.read(2, 3);
        x.read(2, 0);
        x.read(1, 5);
        x.drop(2);
        x.drop(3);
        x.challenge(1, 3);
        Dojo.test(x, 0, Dojo.row(1), Dojo.row(2));
        x.drop(4);
        x.days(2);
        x.run(2, 0);
        x.number(7, false);
        x.number(8, true);
        return x;
    }

    /** The same, where what is typed is the body with a bracket behind it. */
    static Katacode notWhole() {
        Katacode x = midway();
        x.step('[', 0);
        return x;
    }

    /**
     * 10 members; 8 katas, the first with 5 tests, the last with none; 40 works of member 0 for the first; 8 challenges
     * of works 0 to 7, by which member 2 has no honour left; work 8 in p; 24 steps and 10 numbers that are typed.
     */
    static Katacode full() {
        Katacode x = new Katacode();
        Dojo.members(x, 10);
        for (int kata = 0; kata < 8; kata++) {
            x.kata(5);
        }
        for (int test = 0; test < 5; test++) {
            x.number(6, true);
            x.test(0);
        }
        Dojo.type(x, Dojo.SIX);
        x.capacity(40);
        for (int work = 0; work < 40; work++) {
            x.submit(0, 0);
        }
        for (int work = 0; work <= 8; work++) {
            x.drop(work);
        }
        for (int work = 0; work < 8; work++) {
            x.challenge(work < 5 ? 2 : 1, work);
        }
        x.capacity(31);
        for (int work = 9; work < 12; work++) {
            x.read(3, work);
        }
        for (int i = 0; i < 11; i++) {
            x.step('n', i);
            x.step('p', 0);
        }
        for (int i = 0; i < 4; i++) {
            x.number(i, false);
        }
        for (int i = 0; i < 6; i++) {
            x.number(i, true);
        }
        return x;
    }

    /** The same, where what is typed is 24 steps that would not pass. */
    static Katacode fullNotPassing() {
        Katacode x = full();
        x.wipe();
        for (int i = 0; i < 24; i++) {
            x.step('p', 0);
        }
        return x;
    }

    /** The same, where what is typed is 24 steps that are not whole. */
    static Katacode fullNotWhole() {
        Katacode x = full();
        x.wipe();
        for (int i = 0; i < 24; i++) {
            x.step('[', 0);
        }
        return x;
    }
}
