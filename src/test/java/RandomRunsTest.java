import java.util.ArrayList;
import java.util.List;
import java.util.Random;
import java.util.TreeMap;

/**
 * Long runs of calls, always the same ones by their seeds: each answer is that of the Model, only what the document
 * lets a call throw is thrown, in its very class, and a call that throws changes nothing.
 */
public final class RandomRunsTest {
    private static final int RUNS = 400;
    private static final int CALLS = 512;
    private static final String[] PROGRAMS = {
        "i d + o", "i n2 * o", "n6 o", "n0 n961 p p n6 o", "n1 n0 p p n6 o", "n0 n961 [ p ] p n6 o",
        "n1 n0 [ p ] p n6 o", "i n0 s [ s n2 + s n1 - ] p o", "i o n31", "i o o", "i [ o n0 ] n3 o", "[ ]", "i [",
        "", "i d * o", "i o i o", "i i s % o", "n1 [ d ]", "n9 [ d o ]", "i [ d o n1 - ]", "n1 [ ]", "n5 i % o",
        "n1 n0 % o", "i n1 d d d d d d d d d d d d p p p p p p p p p p p p",
    };
    private static final int[][][] TRIALS = {
        {{3}, {6}}, {{3}, {6}}, {{3}, {6}}, {{1}, {2}}, {{0}, {0}}, {{2}, {4}}, {{5}, {6}}, {{2, 3}, {2, 3}}, {{}, {}},
        {{4}, {4, 3, 2, 1}}, {{7}, {49}}, {{-3}, {-6}},
    };
    private static final String[] MEMBERED =
        {"submit", "read", "vote", "best", "challenge", "give", "answer", "copy", "review", "points", "belt", "honour"};
    private static final String[] OF_WORKS =
        {"of", "state", "sum", "steps", "hasBody", "letter", "drop", "style", "left", "meanSteps"};
    private static final String[] OTHERS = {
        "step", "wipe", "number", "clear", "kata", "test", "fix", "tests", "run", "done", "outputs", "output", "depth",
        "member", "works", "capacity", "bodies", "ranked", "open", "days", "checksum", "standingShare", "isSound",
    };
    private static final int[] ODD = {-1, 5, 6, 8, 10, 40, 41, 999, 1000, -999, -1000, Integer.MAX_VALUE,
        Integer.MIN_VALUE, 'n', 'o'};

    private static int wrong = 0;
    private static final TreeMap<String, Integer> seen = new TreeMap<>();

    private final Random random;
    private final int run;
    private final Katacode x = new Katacode();
    private final Model model = new Model();
    private final List<String> told = new ArrayList<>();

    private RandomRunsTest(int run) {
        this.run = run;
        this.random = new Random(run);
    }

    public static void main(String[] args) {
        for (int run = 0; run < RUNS && wrong < 5; run++) {
            new RandomRunsTest(run).play();
        }
        for (String name : new String[] {"give s", "give b", "answer s", "answer b", "answer -", "state c", "state b",
            "state f", "run o", "run w", "run t", "run u", "run e", "run z", "run v", "run l", "belt 2", "belt 3",
            "challenge IllegalStateException", "submit IllegalStateException", "step IllegalStateException"}) {
            if (!seen.containsKey(name)) {
                wrong++;
                System.out.println("RandomRunsTest: no call came to '" + name + "'");
            }
        }
        System.out.println("RandomRunsTest: " + RUNS + " runs, " + wrong + " wrong");
        if (args.length > 0) {
            System.out.println(seen);
        }
        if (wrong != 0) {
            System.exit(1);
        }
    }

    private void play() {
        int style = run % 4;
        for (int i = 0; i < 2 + random.nextInt(7); i++) {
            call("kata", 1 + random.nextInt(5), 0, 0);
            call("member", 0, 0, 0);
        }
        for (int kata = 0; kata < model.levels.size() && told.size() < CALLS; kata++) {
            typeTrial(0);
            call("test", kata, 0, 0);
        }
        while (told.size() < CALLS && wrong < 5) {
            int kind = random.nextInt(20);
            if (kind < 4 - style / 2) {
                // What is typed stays, so that some runs come to 40 works.
                if (style > 0 || random.nextInt(8) == 0) {
                    typeProgram();
                }
                call("submit", member(), kata(), 0);
                call("submit", member(), kata(), 0);
            } else if (kind == 4 && random.nextInt(4 + 4 * style) == 0) {
                typeTrial(random.nextInt(TRIALS.length));
                call("fix", kata(), random.nextInt(3), 0);
            } else if (kind == 5 && random.nextInt(4 + 4 * style) == 0) {
                typeTrial(random.nextInt(TRIALS.length));
                call("test", kata(), 0, 0);
            } else if (kind == 6) {
                call("vote", member(), work(), 1 + random.nextInt(5));
            } else if (kind == 7) {
                int work = work();
                call("read", member(), work, 0);
                call("drop", work, 0, 0);
                call("challenge", member(), work, 0);
            } else if (kind == 8 && !model.open.isEmpty()) {
                close(model.open.get(random.nextInt(model.open.size())));
            } else if (kind == 9 && random.nextInt(3) == 0) {
                type(PROGRAMS[random.nextInt(PROGRAMS.length)]);
                call("run", kata(), random.nextInt(2), 0);
                call("output", random.nextInt(3), 0, 0);
            } else if (kind == 10 && random.nextInt(6) == 0) {
                call("capacity", 1 + random.nextInt(random.nextInt(2) == 0 ? 4 : 40), 0, 0);
            } else {
                any();
            }
        }
    }

    private void close(int work) {
        if (random.nextInt(2) == 0) {
            for (int member = 0; member < model.copies.size(); member++) {
                if (model.copies.get(member).stream().anyMatch(copy -> copy.work() == work)) {
                    call("give", member, work, 0);
                    return;
                }
            }
        }
        int length = model.works.get(work).length;
        for (String program : PROGRAMS) {
            if (!program.isEmpty() && program.split(" ").length == length && random.nextInt(3) > 0) {
                type(program);
                call("answer", member(), work, 0);
                return;
            }
        }
    }

    private void any() {
        int kind = random.nextInt(10);
        int b = random.nextInt(8) == 0 ? odd() : random.nextInt(6);
        if (kind < 4) {
            String name = MEMBERED[random.nextInt(MEMBERED.length)];
            boolean isOfKata = name.equals("submit") || name.equals("best");
            int second = isOfKata ? kata() : name.equals("copy") ? b : work();
            call(name, member(), random.nextInt(12) == 0 ? odd() : second, b);
        } else if (kind < 8) {
            String name = OF_WORKS[random.nextInt(OF_WORKS.length)];
            call(name, work(), name.equals("of") ? "mknvwx".charAt(random.nextInt(6)) : b, b);
        } else {
            String name = OTHERS[random.nextInt(OTHERS.length)];
            boolean isRare = name.equals("wipe") || name.equals("fix") || name.equals("test") || name.equals("capacity")
                || name.equals("days");
            if (!isRare || random.nextInt(4) == 0) {
                int a = random.nextInt(4) == 0 ? odd() : random.nextInt(8);
                call(name, name.equals("step") ? "ni+-*%dspo[]x".charAt(random.nextInt(13)) : a, b, b);
            }
        }
    }

    private int odd() {
        return ODD[random.nextInt(ODD.length)];
    }

    private int member() {
        return random.nextInt(30) == 0 ? odd() : random.nextInt(Math.max(1, model.honours.size()));
    }

    private int kata() {
        return random.nextInt(30) == 0 ? odd() : random.nextInt(Math.max(1, model.levels.size()));
    }

    private int work() {
        return random.nextInt(30) == 0 ? odd() : random.nextInt(Math.max(1, model.works.size()));
    }

    private void typeProgram() {
        type(PROGRAMS[Math.min(random.nextInt(PROGRAMS.length), random.nextInt(PROGRAMS.length))]);
    }

    private void type(String program) {
        call("wipe", 0, 0, 0);
        for (String word : program.split(" ")) {
            if (!word.isEmpty()) {
                call("step", word.charAt(0), word.length() > 1 ? Integer.parseInt(word.substring(1)) : odd(), 0);
            }
        }
    }

    private void typeTrial(int trial) {
        call("clear", 0, 0, 0);
        for (int kind = 0; kind < 2; kind++) {
            for (int number : TRIALS[trial][kind]) {
                call("number", number, kind, 0);
            }
        }
    }

    private void call(String name, int a, int b, int c) {
        if (told.size() >= CALLS) {
            return;
        }
        String before = told.size() % 16 == 0 ? Looker.lookAt(x) : null;
        Object due = null;
        Object got = null;
        boolean isThrown = false;
        try {
            due = model.answer(name, a, b, c);
        } catch (RuntimeException e) {
            due = e.getClass().getSimpleName();
        }
        try {
            got = Caller.call(x, name, a, b, c);
        } catch (RuntimeException e) {
            got = e.getClass().getSimpleName();
            isThrown = true;
        }
        told.add(name + "(" + a + ", " + b + ", " + c + ") = " + got);
        seen.merge(name + " " + got, 1, Integer::sum);
        if (!due.equals(got)) {
            wrong++;
            System.out.println("run " + run + ": due is " + due + " at the end of " + told);
        }
        if (isThrown && before != null && !before.equals(Looker.lookAt(x))) {
            wrong++;
            System.out.println("run " + run + ": changed though it throws, at the end of " + told);
        }
    }
}
