import java.util.ArrayList;
import java.util.Comparator;
import java.util.List;
import java.util.NoSuchElementException;
import java.util.TreeMap;

/**
 * The document once more, with the Java library and nothing held that can be looked up, so that slips in the class
 * and in this one seldom meet. Answers come as objects; what the document lets throw is thrown.
 */
final class Model {
    record Step(char letter, int number) { }

    record Trial(List<Integer> input, List<Integer> expected, int changedAt) { }

    record Vote(int style, int weight) { }

    record Copy(int work, List<Step> body) { }

    record Outcome(char end, int done, int depth, List<Integer> output) { }

    static final class Work {
        int owner;
        int kata;
        int length;
        long sum;
        List<Step> body;
        boolean isBroken;
        boolean isChallenged;
        List<Integer> kept = new ArrayList<>();
        int keptAt;
        int challenger;
        int dueDay;
        TreeMap<Integer, Vote> votes = new TreeMap<>();
    }

    final List<Step> typed = new ArrayList<>();
    final List<Integer> input = new ArrayList<>();
    final List<Integer> expected = new ArrayList<>();
    final List<Integer> levels = new ArrayList<>();
    final List<List<Trial>> trials = new ArrayList<>();
    final List<Integer> honours = new ArrayList<>();
    final List<List<Copy>> copies = new ArrayList<>();
    final List<Work> works = new ArrayList<>();
    final List<Integer> open = new ArrayList<>();
    int room = 12;
    int today = 0;
    int changes = 0;
    Outcome last = null;

    // ---- programs ----

    private static int closing(List<Step> program, int at) {
        int nest = 0;
        for (int i = at; i < program.size(); i++) {
            nest += program.get(i).letter() == '[' ? 1 : program.get(i).letter() == ']' ? -1 : 0;
            if (nest == 0) {
                return i;
            }
        }
        return -1;
    }

    private static int opening(List<Step> program, int at) {
        for (int i = 0; i < at; i++) {
            if (program.get(i).letter() == '[' && closing(program, i) == at) {
                return i;
            }
        }
        return -1;
    }

    private static boolean whole(List<Step> program) {
        for (int i = 0; i < program.size(); i++) {
            char letter = program.get(i).letter();
            if (letter == '[' && closing(program, i) < 0 || letter == ']' && opening(program, i) < 0) {
                return false;
            }
        }
        return true;
    }

    static Outcome outcome(List<Step> program, Trial trial) {
        ArrayList<Integer> stack = new ArrayList<>();
        ArrayList<Integer> output = new ArrayList<>();
        ArrayList<Integer> rest = new ArrayList<>(trial.input());
        int done = 0;
        int at = 0;
        while (at < program.size()) {
            char letter = program.get(at).letter();
            int needs = "ni".indexOf(letter) >= 0 ? 0 : "dpo[]".indexOf(letter) >= 0 ? 1 : 2;
            int size = stack.size();
            char error = done == 300 ? 't'
                : size < needs ? 'u'
                : letter == 'i' && rest.isEmpty() ? 'e'
                : letter == '%' && stack.get(size - 1) == 0 ? 'z'
                : "nid".indexOf(letter) >= 0 && size == 12 ? 'v'
                : letter == 'o' && output.size() == 6 ? 'l' : 0;
            if (error != 0) {
                return new Outcome(error, done, size, output);
            }
            int top = needs > 0 ? stack.get(size - 1) : 0;
            int below = needs > 1 ? stack.get(size - 2) : 0;
            if (letter == '[' || letter == ']') {
                boolean jumps = letter == '[' == (top == 0);
                at = !jumps ? at : letter == '[' ? closing(program, at) : opening(program, at);
            } else {
                for (int i = 0; i < needs; i++) {
                    stack.remove(stack.size() - 1);
                }
                switch (letter) {
                    case 'n' -> stack.add(program.get(at).number());
                    case 'i' -> stack.add(rest.remove(0));
                    case 'd' -> stack.addAll(List.of(top, top));
                    case 's' -> stack.addAll(List.of(top, below));
                    case '+' -> stack.add(below + top);
                    case '-' -> stack.add(below - top);
                    case '*' -> stack.add(below * top);
                    case '%' -> stack.add(below % top);
                    case 'o' -> output.add(top);
                    default -> { }
                }
            }
            at++;
            done++;
        }
        return new Outcome(output.equals(trial.expected()) ? 'o' : 'w', done, stack.size(), output);
    }

    private static long sumOf(List<Step> program) {
        long sum = 17;
        for (Step step : program) {
            sum = (sum * 31 + step.letter()) * 31 + step.number();
        }
        return sum;
    }

    private boolean passes(List<Step> program, int kata) {
        return trials.get(kata).stream().allMatch(trial -> outcome(program, trial).end() == 'o');
    }

    // ---- the face ----

    private static void argument(boolean isFine) {
        if (!isFine) {
            throw new IllegalArgumentException();
        }
    }

    private static void state(boolean isFine) {
        if (!isFine) {
            throw new IllegalStateException();
        }
    }

    private static void index(int index, List<?> row) {
        if (index < 0 || index >= row.size()) {
            throw new IndexOutOfBoundsException();
        }
    }

    private static void supported(boolean isFine) {
        if (!isFine) {
            throw new UnsupportedOperationException();
        }
    }

    private static void element(boolean isFine) {
        if (!isFine) {
            throw new NoSuchElementException();
        }
    }

    private static void arithmetic(boolean isFine) {
        if (!isFine) {
            throw new ArithmeticException();
        }
    }

    Object answer(String name, int a, int b, int c) {
        switch (name) {
            case "step": {
                argument("ni+-*%dspo[]".indexOf((char) a) >= 0 && ((char) a != 'n' || Math.abs((long) b) <= 999));
                state(typed.size() < 24);
                typed.add(new Step((char) a, (char) a == 'n' ? b : 0));
                return typed.size();
            }
            case "wipe": {
                int before = typed.size();
                typed.clear();
                return before;
            }
            case "number": {
                argument(Math.abs((long) a) <= 999);
                List<Integer> kind = b != 0 ? expected : input;
                state(kind.size() < (b != 0 ? 6 : 4));
                kind.add(a);
                return kind.size();
            }
            case "clear": {
                int before = input.size() + expected.size();
                input.clear();
                expected.clear();
                return before;
            }
            case "kata": {
                argument(a >= 1 && a <= 5);
                state(levels.size() < 8);
                levels.add(a);
                trials.add(new ArrayList<>());
                return levels.size() - 1;
            }
            case "test": {
                index(a, levels);
                state(trials.get(a).size() < 5);
                List<Character> before = states();
                trials.get(a).add(taken());
                return otherwise(before);
            }
            case "fix": {
                index(a, levels);
                index(b, trials.get(a));
                List<Character> before = states();
                trials.get(a).set(b, taken());
                return otherwise(before);
            }
            case "tests": {
                index(a, levels);
                return trials.get(a).size();
            }
            case "run": {
                index(a, levels);
                index(b, trials.get(a));
                supported(whole(typed));
                last = outcome(List.copyOf(typed), trials.get(a).get(b));
                return last.end();
            }
            case "done": {
                element(last != null);
                return last.done();
            }
            case "outputs": {
                element(last != null);
                return last.output().size();
            }
            case "output": {
                element(last != null && a >= 0 && a < last.output().size());
                return last.output().get(a);
            }
            case "depth": {
                element(last != null);
                return last.depth();
            }
            case "member": {
                state(honours.size() < 10);
                honours.add(10);
                copies.add(new ArrayList<>());
                return honours.size() - 1;
            }
            case "checksum": {
                long sum = 7;
                for (int i = 0; i < works.size(); i++) {
                    sum = (sum * 31 + stateOf(i)) * 31 + product(works.get(i));
                }
                for (int honour : honours) {
                    sum = sum * 31 + honour;
                }
                return sum;
            }
            case "standingShare": {
                arithmetic(!works.isEmpty());
                return (float) states().stream().filter(s -> "spc".indexOf(s) >= 0).count() / (float) works.size();
            }
            case "isSound":
                return true;
            case "ranked": {
                element(a >= 0 && a < honours.size());
                List<Integer> row = new ArrayList<>();
                for (int i = 0; i < honours.size(); i++) {
                    row.add(i);
                }
                row.sort(Comparator.<Integer>comparingInt(i -> -belt(i)).thenComparing(i -> -points(i)));
                return row.get(a);
            }
            case "open": {
                element(a >= 0 && a < open.size());
                return open.get(a);
            }
            case "days": {
                argument(a >= 1 && a <= 30);
                today += a;
                int broken = 0;
                for (int work : List.copyOf(open)) {
                    if (works.get(work).dueDay <= today) {
                        open.remove(Integer.valueOf(work));
                        works.get(work).isChallenged = false;
                        works.get(work).isBroken = true;
                        gain(works.get(work).challenger, 5);
                        broken++;
                    }
                }
                return broken;
            }
            case "capacity": {
                argument(a >= 1 && a <= 40);
                room = a;
                return makeRoom();
            }
            case "works":
                return works.size();
            case "bodies":
                return bodies();
            default:
                return ofWorks(name, a, b, c);
        }
    }

    private Object ofWorks(String name, int a, int b, int c) {
        switch (name) {
            case "of": {
                index(a, works);
                Work work = works.get(a);
                argument("mknvw".indexOf((char) b) >= 0);
                return switch ((char) b) {
                    case 'm' -> work.owner;
                    case 'k' -> work.kata;
                    case 'n' -> work.length;
                    case 'v' -> work.votes.size();
                    default -> weights(work);
                };
            }
            case "state": {
                index(a, works);
                return stateOf(a);
            }
            case "sum": {
                index(a, works);
                return works.get(a).sum;
            }
            case "hasBody": {
                index(a, works);
                return works.get(a).body != null;
            }
            case "steps": {
                index(a, works);
                index(b, trials.get(works.get(a).kata));
                List<Integer> told = told(works.get(a));
                element(b < told.size());
                return told.get(b);
            }
            case "meanSteps": {
                index(a, works);
                List<Integer> told = told(works.get(a));
                arithmetic(!told.isEmpty());
                return (double) told.stream().mapToInt(i -> i).sum() / (double) told.size();
            }
            case "letter": {
                index(a, works);
                List<Step> body = works.get(a).body;
                element(body != null && b >= 0 && b < body.size());
                return body.get(b).letter();
            }
            case "drop": {
                index(a, works);
                supported(works.get(a).body != null);
                dropOne(a);
                return bodies();
            }
            case "style": {
                index(a, works);
                int above = above(works.get(a));
                int under = under(works.get(a));
                for (int i = under; i > 1; i--) {
                    if (above % i == 0 && under % i == 0) {
                        above /= i;
                        under /= i;
                    }
                }
                return (long) (b != 0 ? under : above);
            }
            case "left": {
                index(a, works);
                supported(works.get(a).isChallenged);
                return works.get(a).dueDay - today;
            }
            default:
                index(a, honours);
                return ofMembers(name, a, b, c);
        }
    }

    private Object ofMembers(String name, int a, int b, int c) {
        switch (name) {
            case "submit": {
                index(b, levels);
                supported(whole(typed) && !trials.get(b).isEmpty());
                state(works.size() < 40);
                if (!passes(typed, b)) {
                    return -1;
                }
                Work work = new Work();
                work.owner = a;
                work.kata = b;
                work.length = typed.size();
                work.sum = sumOf(typed);
                work.body = List.copyOf(typed);
                works.add(work);
                int number = works.size() - 1;
                makeRoom();
                return number;
            }
            case "read": {
                index(b, works);
                element(works.get(b).body != null);
                copies.get(a).removeIf(copy -> copy.work() == b);
                copies.get(a).add(new Copy(b, works.get(b).body));
                if (copies.get(a).size() > 3) {
                    copies.get(a).remove(0);
                }
                return copies.get(a).size();
            }
            case "copy": {
                element(b >= 0 && b < copies.get(a).size());
                return copies.get(a).get(b).work();
            }
            case "vote": {
                index(b, works);
                argument(c >= 1 && c <= 5);
                supported(votable(a, b));
                works.get(b).votes.put(a, new Vote(c, belt(a) + 1));
                return works.get(b).votes.get(a).weight();
            }
            case "review": {
                List<Integer> row = new ArrayList<>();
                for (int i = 0; i < works.size(); i++) {
                    if (votable(a, i) && !works.get(i).votes.containsKey(a)) {
                        row.add(i);
                    }
                }
                element(!row.isEmpty());
                row.sort(Comparator.<Integer>comparingInt(i -> works.get(i).votes.size())
                    .thenComparing(i -> levels.get(works.get(i).kata)));
                return row.get(0);
            }
            case "best": {
                index(b, levels);
                element(best(a, b) >= 0);
                return best(a, b);
            }
            case "points":
                return points(a);
            case "belt":
                return belt(a);
            case "honour":
                return honours.get(a);
            case "challenge": {
                index(b, works);
                Work work = works.get(b);
                supported(work.owner != a && stateOf(b) == 'p' && honours.get(a) >= 2);
                state(open.size() < 8);
                gain(a, -2);
                work.isChallenged = true;
                work.challenger = a;
                work.dueDay = today + 7;
                open.add(b);
                return open.size();
            }
            case "give": {
                index(b, works);
                supported(works.get(b).isChallenged);
                List<Copy> fitting = copies.get(a).stream().filter(copy -> copy.work() == b).toList();
                element(!fitting.isEmpty());
                return close(a, b, fitting.get(0).body());
            }
            case "answer": {
                index(b, works);
                Work work = works.get(b);
                supported(work.isChallenged && whole(typed));
                boolean isBody = typed.size() == work.length && sumOf(typed) == work.sum;
                for (int i = 0; i < work.kept.size(); i++) {
                    Trial trial = trials.get(work.kata).get(i);
                    isBody &= trial.changedAt() > work.keptAt || outcome(typed, trial).done() == work.kept.get(i);
                }
                return isBody ? close(a, b, List.copyOf(typed)) : (Object) '-';
            }
            default:
                throw new AssertionError(name);
        }
    }

    // ---- what follows from what is held ----

    private Trial taken() {
        changes++;
        Trial trial = new Trial(List.copyOf(input), List.copyOf(expected), changes);
        input.clear();
        expected.clear();
        return trial;
    }

    private char stateOf(int index) {
        Work work = works.get(index);
        if (work.body != null) {
            return passes(work.body, work.kata) ? 's' : 'f';
        }
        return work.isBroken ? 'b' : work.isChallenged ? 'c' : 'p';
    }

    private List<Character> states() {
        List<Character> row = new ArrayList<>();
        for (int i = 0; i < works.size(); i++) {
            row.add(stateOf(i));
        }
        return row;
    }

    private int otherwise(List<Character> before) {
        List<Character> now = states();
        int count = 0;
        for (int i = 0; i < now.size(); i++) {
            count += now.get(i).equals(before.get(i)) ? 0 : 1;
        }
        return count;
    }

    private List<Integer> told(Work work) {
        return work.body == null ? work.kept : runs(work);
    }

    private List<Integer> runs(Work work) {
        return trials.get(work.kata).stream().map(trial -> outcome(work.body, trial).done()).toList();
    }

    private int bodies() {
        return (int) works.stream().filter(work -> work.body != null).count();
    }

    private int makeRoom() {
        int dropped = 0;
        while (bodies() > room) {
            List<Integer> row = new ArrayList<>();
            for (int i = 0; i < works.size(); i++) {
                if (works.get(i).body != null) {
                    row.add(i);
                }
            }
            row.sort(Comparator.<Integer, Boolean>comparing(i -> stateOf(i) != 'f')
                .thenComparing(i -> weights(works.get(i))));
            dropOne(row.get(0));
            dropped++;
        }
        return dropped;
    }

    private void dropOne(int index) {
        Work work = works.get(index);
        work.isBroken = stateOf(index) == 'f';
        work.kept = runs(work);
        work.keptAt = changes;
        work.body = null;
    }

    private Object close(int teller, int index, List<Step> body) {
        Work work = works.get(index);
        open.remove(Integer.valueOf(index));
        work.isChallenged = false;
        work.body = body;
        boolean stands = stateOf(index) == 's';
        makeRoom();
        gain(stands ? teller : work.challenger, stands ? 3 : 5);
        if (!stands && work.body != null) {
            dropOne(index);
        }
        return stands ? 's' : 'b';
    }

    private void gain(int member, int honour) {
        honours.set(member, honours.get(member) + honour);
    }

    private boolean votable(int member, int work) {
        return works.get(work).owner != member && stateOf(work) == 's';
    }

    private static int weights(Work work) {
        return work.votes.values().stream().mapToInt(Vote::weight).sum();
    }

    private static int product(Work work) {
        return work.votes.values().stream().mapToInt(vote -> vote.style() * vote.weight()).sum();
    }

    private static int above(Work work) {
        return work.votes.isEmpty() ? 1 : product(work);
    }

    private static int under(Work work) {
        return work.votes.isEmpty() ? 1 : weights(work);
    }

    private int best(int member, int kata) {
        int best = -1;
        for (int i = works.size() - 1; i >= 0; i--) {
            Work work = works.get(i);
            if (work.owner == member && work.kata == kata && "spc".indexOf(stateOf(i)) >= 0) {
                Work other = best < 0 ? work : works.get(best);
                if (above(work) * under(other) >= above(other) * under(work)) {
                    best = i;
                }
            }
        }
        return best;
    }

    private float points(int member) {
        float points = 0.0f;
        for (int kata = 0; kata < levels.size(); kata++) {
            int best = best(member, kata);
            if (best >= 0) {
                points += (float) (levels.get(kata) * above(works.get(best))) / (float) under(works.get(best));
            }
        }
        return points;
    }

    private int belt(int member) {
        int count = 0;
        for (int kata = 0; kata < levels.size(); kata++) {
            count += best(member, kata) >= 0 ? 1 : 0;
        }
        for (int belt = 5; belt > 0; belt--) {
            if (count >= belt && points(member) >= 2 * belt * (belt + 1)) {
                return belt;
            }
        }
        return 0;
    }
}
