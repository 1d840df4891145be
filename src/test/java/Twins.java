import java.util.ArrayList;
import java.util.List;
import java.util.function.Supplier;

/** Of two dojos that are alike one refuses a call, and then both have to answer alike whatever they are asked. */
final class Twins {
    private final Katacode x;
    private final List<String> told = new ArrayList<>();

    private Twins(Katacode x) {
        this.x = x;
    }

    static void refuse(Check check, Supplier<Katacode> scene, Class<? extends RuntimeException> due, String name, int... args) {
        int a = args.length > 0 ? args[0] : 0;
        int b = args.length > 1 ? args[1] : 0;
        int c = args.length > 2 ? args[2] : 0;
        String call = name + "(" + a + ", " + b + ", " + c + ")";
        Katacode x = scene.get();
        check.refuses(call, due, () -> Caller.call(x, name, a, b, c));
        List<String> got = askedAll(x);
        List<String> other = askedAll(scene.get());
        check.same("how many answers after " + call, got.size(), other.size());
        for (int i = 0; i < got.size() && i < other.size(); i++) {
            check.same("what is told after " + call, got.get(i), other.get(i));
        }
    }

    private static List<String> askedAll(Katacode x) {
        Twins twin = new Twins(x);
        twin.askOfTheDojo();
        twin.askOfWorks();
        twin.askOfMembers();
        twin.goOn();
        return twin.told;
    }

    private void ask(String name, int... args) {
        int a = args.length > 0 ? args[0] : 0;
        int b = args.length > 1 ? args[1] : 0;
        int c = args.length > 2 ? args[2] : 0;
        String answer;
        try {
            answer = "" + Caller.call(x, name, a, b, c);
        } catch (RuntimeException e) {
            answer = e.getClass().getSimpleName();
        }
        told.add(name + "(" + a + ", " + b + ", " + c + ") = " + answer);
    }

    private void askOfTheDojo() {
        for (String name : new String[] {"works", "bodies", "checksum", "standingShare", "isSound", "done", "outputs",
            "depth"}) {
            ask(name);
        }
        for (int i = 0; i < 3; i++) {
            ask("tests", i);
            ask("output", i);
            ask("ranked", i);
        }
        for (int i = 0; i < 9; i++) {
            ask("open", i);
        }
    }

    /** Not of all 40, so that no dojo comes to its 512th call. */
    private void askOfWorks() {
        for (int work = 0; work < x.works() && work < 9; work++) {
            ask("state", work);
            ask("hasBody", work);
            ask("left", work);
            ask("steps", work, 0);
            ask("steps", work, 1);
            ask("letter", work, 1);
            ask("style", work, 0);
            ask("style", work, 1);
            ask("of", work, 'v');
            ask("of", work, 'w');
        }
    }

    private void askOfMembers() {
        for (int member = 0; member < 4; member++) {
            for (String name : new String[] {"points", "belt", "honour", "review"}) {
                ask(name, member);
            }
            for (int i = 0; i < 3; i++) {
                ask("copy", member, i);
                ask("best", member, i);
            }
        }
    }

    /** What is typed, which days are left and what there is room for is only told by what comes of it. */
    private void goOn() {
        ask("run", 0, 0);
        ask("done");
        ask("depth");
        ask("submit", 1, 2);
        ask("submit", 1, 0);
        ask("answer", 3, 3);
        ask("wipe");
        ask("number", 1, 1);
        ask("number", 1, 0);
        ask("clear");
        ask("days", 4);
        ask("left", 3);
        ask("days", 1);
        ask("test", 2);
        ask("kata", 1);
        ask("tests", 3);
        ask("member");
        ask("checksum");
        ask("capacity", 3);
        ask("checksum");
        ask("isSound");
    }
}
