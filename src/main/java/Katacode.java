import java.util.NoSuchElementException;

/**
 * A dojo of katas: programs of a small stack language are run by steps, and works are proved by
 * tests, voted on, dropped from an archive, challenged and broken.
 */
public final class Katacode {
    private static final int MOST_STEPS = 24;
    private static final int MOST_NUMBER = 999;
    private static final int MOST_INPUTS = 4;
    private static final int MOST_EXPECTED = 6;
    private static final int MOST_DONE = 300;
    private static final int MOST_STACK = 12;
    private static final int MOST_OUTPUTS = 6;
    private static final int MOST_KATAS = 8;
    private static final int MOST_LEVEL = 5;
    private static final int MOST_TESTS = 5;
    private static final int MOST_MEMBERS = 10;
    private static final int MOST_WORKS = 40;
    private static final int MOST_COPIES = 3;
    private static final int MOST_STYLE = 5;
    private static final int MOST_BELT = 5;
    private static final int MOST_CHALLENGES = 8;
    private static final int MOST_DAYS = 30;
    private static final int FIRST_ROOM = 12;
    private static final int FIRST_HONOUR = 10;
    private static final int CHALLENGE_COST = 2;
    private static final int TELLER_GAIN = 3;
    private static final int CHALLENGER_GAIN = 5;
    private static final int CHALLENGE_DAYS = 7;
    private static final int FIRST_SUM = 17;
    private static final int FIRST_CHECKSUM = 7;
    private static final int FACTOR = 31;
    private static final int NONE = -1;

    private static final char PASSING = 's';
    private static final char FAILING = 'f';
    private static final char PROVED = 'p';
    private static final char CHALLENGED = 'c';
    private static final char BROKEN = 'b';
    private static final char NOT_THE_BODY = '-';

    private static final char AS_EXPECTED = 'o';
    private static final char WRONG = 'w';
    private static final char NO_ERROR = ' ';

    private static final String LETTERS = "ni+-*%dspo[]";

    private final Program typed = new Program();
    private final Test draft = new Test();
    private final Kata[] katas = new Kata[MOST_KATAS];
    private final Member[] members = new Member[MOST_MEMBERS];
    private final Work[] works = new Work[MOST_WORKS];
    private final int[] openWorks = new int[MOST_CHALLENGES];
    private final int[] takenRow = new int[MOST_KATAS];
    // The runs that the dojo makes for itself must not change what done() and output() tell.
    private final Machine shown = new Machine();
    private final Machine judge = new Machine();
    private int kataCount = 0;
    private int memberCount = 0;
    private int workCount = 0;
    private int openCount = 0;
    private int room = FIRST_ROOM;
    private int testChanges = 0;
    private boolean hasRun = false;

    public Katacode() {
        for (int index = 0; index < MOST_KATAS; index++) {
            katas[index] = new Kata();
        }
        for (int index = 0; index < MOST_MEMBERS; index++) {
            members[index] = new Member();
        }
        for (int index = 0; index < MOST_WORKS; index++) {
            works[index] = new Work();
        }
    }

    // ---- programs ----

    public int step(char letter, int number) throws IllegalArgumentException, IllegalStateException {
        if (LETTERS.indexOf(letter) < 0) {
            throw new IllegalArgumentException("no such letter");
        }
        boolean isMeant = letter == 'n';
        if (isMeant && isOutOfRange(number)) {
            throw new IllegalArgumentException("the number is out of range");
        }
        if (typed.length >= MOST_STEPS) {
            throw new IllegalStateException("there are 24 steps");
        }
        typed.append(letter, isMeant ? number : 0);
        return typed.length;
    }

    public int wipe() {
        int before = typed.length;
        typed.erase();
        return before;
    }

    // ---- tests and katas ----

    public int number(int number, boolean isExpected) throws IllegalArgumentException, IllegalStateException {
        if (isOutOfRange(number)) {
            throw new IllegalArgumentException("the number is out of range");
        }
        if (isExpected ? draft.expectedCount >= MOST_EXPECTED : draft.inputCount >= MOST_INPUTS) {
            throw new IllegalStateException("there are no more numbers of this kind");
        }
        return isExpected ? draft.addExpected(number) : draft.addInput(number);
    }

    public int clear() {
        int before = draft.inputCount + draft.expectedCount;
        draft.erase();
        return before;
    }

    public int kata(int level) throws IllegalArgumentException, IllegalStateException {
        if (level < 1 || level > MOST_LEVEL) {
            throw new IllegalArgumentException("the level is out of range");
        }
        if (kataCount >= MOST_KATAS) {
            throw new IllegalStateException("there are 8 katas");
        }
        katas[kataCount].level = level;
        kataCount++;
        return kataCount - 1;
    }

    public int test(int kata) throws IndexOutOfBoundsException, IllegalStateException {
        Kata changed = kataAt(kata);
        if (changed.testCount >= MOST_TESTS) {
            throw new IllegalStateException("there are 5 tests");
        }
        int added = changed.testCount;
        changed.testCount++;
        return setTest(kata, changed.tests[added]);
    }

    public int fix(int kata, int test) throws IndexOutOfBoundsException {
        return setTest(kata, testAt(kataAt(kata), test));
    }

    public int tests(int kata) throws IndexOutOfBoundsException {
        return kataAt(kata).testCount;
    }

    // ---- the run that is shown ----

    public char run(int kata, int test) throws IndexOutOfBoundsException, UnsupportedOperationException {
        Test asked = testAt(kataAt(kata), test);
        if (!typed.isWhole()) {
            throw new UnsupportedOperationException("what is typed is not whole");
        }
        hasRun = true;
        return shown.execute(typed, asked);
    }

    public int done() throws NoSuchElementException {
        return lastRun().stepsDone;
    }

    public int outputs() throws NoSuchElementException {
        return lastRun().outputCount;
    }

    public int output(int index) throws NoSuchElementException {
        Machine last = lastRun();
        if (index < 0 || index >= last.outputCount) {
            throw new NoSuchElementException("no such number");
        }
        return last.outputs[index];
    }

    public int depth() throws NoSuchElementException {
        return lastRun().depth;
    }

    // ---- members and works ----

    public int member() throws IllegalStateException {
        if (memberCount >= MOST_MEMBERS) {
            throw new IllegalStateException("there are 10 members");
        }
        memberCount++;
        return memberCount - 1;
    }

    public int submit(int member, int kata)
            throws IndexOutOfBoundsException, UnsupportedOperationException, IllegalStateException {
        memberAt(member);
        Kata asked = kataAt(kata);
        if (!typed.isWhole() || asked.testCount == 0) {
            throw new UnsupportedOperationException("not whole, or no test");
        }
        if (workCount >= MOST_WORKS) {
            throw new IllegalStateException("there are 40 works");
        }
        if (!passesAll(typed, asked)) {
            return NONE;
        }
        int added = workCount;
        workCount++;
        works[added].begin(member, kata, typed);
        makeRoom();
        return added;
    }

    public int works() {
        return workCount;
    }

    public int of(int work, char what) throws IndexOutOfBoundsException, IllegalArgumentException {
        Work asked = workAt(work);
        switch (what) {
            case 'm':
                return asked.owner;
            case 'k':
                return asked.kata;
            case 'n':
                return asked.length;
            case 'v':
                return asked.voteCount;
            case 'w':
                return asked.weightSum;
            default:
                throw new IllegalArgumentException("no such thing");
        }
    }

    public char state(int work) throws IndexOutOfBoundsException {
        return workAt(work).state;
    }

    public long sum(int work) throws IndexOutOfBoundsException {
        return workAt(work).sum;
    }

    public int steps(int work, int test) throws IndexOutOfBoundsException, NoSuchElementException {
        Work asked = workAt(work);
        testAt(katas[asked.kata], test);
        int told = stepsTold(asked, test);
        if (told == NONE) {
            throw new NoSuchElementException("the test was added behind that");
        }
        return told;
    }

    public boolean hasBody(int work) throws IndexOutOfBoundsException {
        return workAt(work).isBodied;
    }

    public char letter(int work, int step) throws IndexOutOfBoundsException, NoSuchElementException {
        Work asked = workAt(work);
        if (!asked.isBodied || step < 0 || step >= asked.body.length) {
            throw new NoSuchElementException("no body, or no such step");
        }
        return asked.body.letters[step];
    }

    // ---- archive ----

    public int drop(int work) throws IndexOutOfBoundsException, UnsupportedOperationException {
        Work asked = workAt(work);
        if (!asked.isBodied) {
            throw new UnsupportedOperationException("the work has no body");
        }
        dropBody(asked);
        return bodyCount();
    }

    public int capacity(int bodies) throws IllegalArgumentException {
        if (bodies < 1 || bodies > MOST_WORKS) {
            throw new IllegalArgumentException("the room is out of range");
        }
        room = bodies;
        return makeRoom();
    }

    public int bodies() {
        return bodyCount();
    }

    public int read(int member, int work) throws IndexOutOfBoundsException, NoSuchElementException {
        Member reader = memberAt(member);
        Work asked = workAt(work);
        if (!asked.isBodied) {
            throw new NoSuchElementException("the work has no body");
        }
        reader.keepCopy(work, asked.body);
        return reader.copyCount;
    }

    public int copy(int member, int index) throws IndexOutOfBoundsException, NoSuchElementException {
        Member reader = memberAt(member);
        if (index < 0 || index >= reader.copyCount) {
            throw new NoSuchElementException("no such copy");
        }
        return reader.copyWorks[index];
    }

    // ---- votes ----

    public int vote(int member, int work, int style)
            throws IndexOutOfBoundsException, IllegalArgumentException, UnsupportedOperationException {
        memberAt(member);
        Work asked = workAt(work);
        if (style < 1 || style > MOST_STYLE) {
            throw new IllegalArgumentException("the style is out of range");
        }
        if (!isOpenToVoteOf(member, asked)) {
            throw new UnsupportedOperationException("the own one, without a body, or in f");
        }
        int weight = beltOf(member) + 1;
        asked.takeVote(member, style, weight);
        return weight;
    }

    public long style(int work, boolean isUnder) throws IndexOutOfBoundsException {
        Work asked = workAt(work);
        int above = asked.styleAbove();
        int under = asked.styleUnder();
        int divisor = commonDivisor(above, under);
        if (divisor < 1) {
            divisor = 1;
        }
        return isUnder ? under / divisor : above / divisor;
    }

    public int review(int member) throws IndexOutOfBoundsException, NoSuchElementException {
        memberAt(member);
        int next = NONE;
        for (int work = 0; work < workCount; work++) {
            Work seen = works[work];
            boolean isToReview = isOpenToVoteOf(member, seen) && seen.votes[member] == 0;
            if (isToReview && (next == NONE || isReviewedBefore(seen, works[next]))) {
                next = work;
            }
        }
        if (next == NONE) {
            throw new NoSuchElementException("no work to review");
        }
        return next;
    }

    // ---- belts ----

    public int best(int member, int kata) throws IndexOutOfBoundsException, NoSuchElementException {
        memberAt(member);
        kataAt(kata);
        takeWorks(member);
        if (takenRow[kata] == NONE) {
            throw new NoSuchElementException("no work of the member counts");
        }
        return takenRow[kata];
    }

    public float points(int member) throws IndexOutOfBoundsException {
        memberAt(member);
        return pointsOf(member);
    }

    public int belt(int member) throws IndexOutOfBoundsException {
        memberAt(member);
        return beltOf(member);
    }

    public int honour(int member) throws IndexOutOfBoundsException {
        return memberAt(member).honour;
    }

    public int ranked(int place) throws NoSuchElementException {
        for (int member = 0; member < memberCount; member++) {
            int before = 0;
            for (int other = 0; other < memberCount; other++) {
                before += isRankedBefore(other, member) ? 1 : 0;
            }
            if (before == place) {
                return member;
            }
        }
        throw new NoSuchElementException("no such place");
    }

    // ---- challenges ----

    public int challenge(int member, int work)
            throws IndexOutOfBoundsException, UnsupportedOperationException, IllegalStateException {
        Member challenger = memberAt(member);
        Work asked = workAt(work);
        if (asked.owner == member || asked.state != PROVED || challenger.honour < CHALLENGE_COST) {
            throw new UnsupportedOperationException("the own one, not in p, or too little honour");
        }
        if (openCount >= MOST_CHALLENGES) {
            throw new IllegalStateException("8 challenges are open");
        }
        challenger.honour -= CHALLENGE_COST;
        asked.state = CHALLENGED;
        asked.challenger = member;
        asked.daysLeft = CHALLENGE_DAYS;
        openWorks[openCount] = work;
        openCount++;
        return openCount;
    }

    public char give(int member, int work)
            throws IndexOutOfBoundsException, UnsupportedOperationException, NoSuchElementException {
        Member giver = memberAt(member);
        if (workAt(work).state != CHALLENGED) {
            throw new UnsupportedOperationException("the work is not in c");
        }
        int place = giver.placeOfCopy(work);
        if (place == NONE) {
            throw new NoSuchElementException("the member has no copy of it");
        }
        return closeByBody(work, giver.copies[place], giver);
    }

    public char answer(int member, int work) throws IndexOutOfBoundsException, UnsupportedOperationException {
        Member teller = memberAt(member);
        Work asked = workAt(work);
        if (asked.state != CHALLENGED || !typed.isWhole()) {
            throw new UnsupportedOperationException("the work is not in c, or what is typed is not whole");
        }
        if (!isTheBody(typed, asked)) {
            return NOT_THE_BODY;
        }
        return closeByBody(work, typed, teller);
    }

    public int open(int index) throws NoSuchElementException {
        if (index < 0 || index >= openCount) {
            throw new NoSuchElementException("no such challenge");
        }
        return openWorks[index];
    }

    public int left(int work) throws IndexOutOfBoundsException, UnsupportedOperationException {
        Work asked = workAt(work);
        if (asked.state != CHALLENGED) {
            throw new UnsupportedOperationException("the work is not in c");
        }
        return asked.daysLeft;
    }

    public int days(int days) throws IllegalArgumentException {
        if (days < 1 || days > MOST_DAYS) {
            throw new IllegalArgumentException("the days are out of range");
        }
        int broken = 0;
        // From the last to the first, as a challenge that is over leaves the row.
        for (int index = openCount - 1; index >= 0; index--) {
            int work = openWorks[index];
            works[work].daysLeft -= days;
            if (works[work].daysLeft <= 0) {
                closeChallenge(work);
                works[work].state = BROKEN;
                members[works[work].challenger].honour += CHALLENGER_GAIN;
                broken++;
            }
        }
        return broken;
    }

    // ---- sums over the dojo ----

    public long checksum() {
        long sum = FIRST_CHECKSUM;
        for (int work = 0; work < workCount; work++) {
            sum = sum * FACTOR + works[work].state;
            sum = sum * FACTOR + works[work].votesTimesWeights;
        }
        for (int member = 0; member < memberCount; member++) {
            sum = sum * FACTOR + members[member].honour;
        }
        return sum;
    }

    public float standingShare() throws ArithmeticException {
        if (workCount == 0) {
            throw new ArithmeticException("there are no works");
        }
        int standing = 0;
        for (int work = 0; work < workCount; work++) {
            if (works[work].isCounted()) {
                standing++;
            }
        }
        return (float) standing / (float) workCount;
    }

    public double meanSteps(int work) throws IndexOutOfBoundsException, ArithmeticException {
        Work asked = workAt(work);
        int sum = 0;
        int count = 0;
        for (int test = 0; test < katas[asked.kata].testCount; test++) {
            int told = stepsTold(asked, test);
            if (told != NONE) {
                sum += told;
                count++;
            }
        }
        if (count == 0) {
            throw new ArithmeticException("there are no steps");
        }
        return (double) sum / (double) count;
    }

    public boolean isSound() {
        return bodyCount() <= room && areBodiesSound() && areBeltsSound() && areChallengesSound();
    }

    // ---- what the arguments name ----

    private static boolean isOutOfRange(int number) {
        return number < -MOST_NUMBER || number > MOST_NUMBER;
    }

    private Kata kataAt(int kata) {
        if (kata < 0 || kata >= kataCount) {
            throw new IndexOutOfBoundsException("no such kata");
        }
        return katas[kata];
    }

    private Test testAt(Kata kata, int test) {
        if (test < 0 || test >= kata.testCount) {
            throw new IndexOutOfBoundsException("no such test");
        }
        return kata.tests[test];
    }

    private Member memberAt(int member) {
        if (member < 0 || member >= memberCount) {
            throw new IndexOutOfBoundsException("no such member");
        }
        return members[member];
    }

    private Work workAt(int work) {
        if (work < 0 || work >= workCount) {
            throw new IndexOutOfBoundsException("no such work");
        }
        return works[work];
    }

    private Machine lastRun() {
        if (!hasRun) {
            throw new NoSuchElementException("there was no run");
        }
        return shown;
    }

    // ---- how works stand by the tests ----

    /** Answers how many works stand otherwise than before. */
    private int setTest(int kata, Test test) {
        testChanges++;
        test.take(draft);
        test.changedAt = testChanges;
        draft.erase();
        int changed = 0;
        for (int work = 0; work < workCount; work++) {
            Work seen = works[work];
            if (seen.isBodied && seen.kata == kata) {
                char before = seen.state;
                seen.state = verdictOn(seen);
                changed += seen.state == before ? 0 : 1;
            }
        }
        return changed;
    }

    private char verdictOn(Work work) {
        return passesAll(work.body, katas[work.kata]) ? PASSING : FAILING;
    }

    private boolean passesAll(Program program, Kata kata) {
        for (int test = 0; test < kata.testCount; test++) {
            if (judge.execute(program, kata.tests[test]) != AS_EXPECTED) {
                return false;
            }
        }
        return true;
    }

    private int stepsDoneBy(Program program, Test test) {
        judge.execute(program, test);
        return judge.stepsDone;
    }

    /** Answers NONE if the test was added after the work lost its body. */
    private int stepsTold(Work work, int test) {
        if (work.isBodied) {
            return stepsDoneBy(work.body, katas[work.kata].tests[test]);
        }
        return test < work.keptCount ? work.keptSteps[test] : NONE;
    }

    // ---- archive: what is kept, and what makes room ----

    private int bodyCount() {
        int count = 0;
        for (int work = 0; work < workCount; work++) {
            count += works[work].isBodied ? 1 : 0;
        }
        return count;
    }

    /** Answers how many bodies were dropped. */
    private int makeRoom() {
        int dropped = 0;
        for (int surplus = bodyCount() - room; surplus > 0; surplus--) {
            int work = nextToDrop();
            if (work != NONE) {
                dropBody(works[work]);
                dropped++;
            }
        }
        return dropped;
    }

    private int nextToDrop() {
        int next = NONE;
        for (int work = 0; work < workCount; work++) {
            if (works[work].isBodied && (next == NONE || isDroppedBefore(works[work], works[next]))) {
                next = work;
            }
        }
        return next;
    }

    private static boolean isDroppedBefore(Work one, Work other) {
        boolean isFailing = one.state == FAILING;
        if (isFailing != (other.state == FAILING)) {
            return isFailing;
        }
        return one.weightSum < other.weightSum;
    }

    private void dropBody(Work work) {
        Kata kata = katas[work.kata];
        for (int test = 0; test < kata.testCount; test++) {
            judge.execute(work.body, kata.tests[test]);
            work.keptSteps[test] = judge.stepsDone;
        }
        work.keptCount = kata.testCount;
        work.keptAt = testChanges;
        work.isBodied = false;
        work.body.erase();
        work.state = work.state == FAILING ? BROKEN : PROVED;
    }

    // ---- votes, belts and ranks ----

    private static boolean isOpenToVoteOf(int member, Work work) {
        return work.owner != member && work.isBodied && work.state != FAILING;
    }

    private boolean isReviewedBefore(Work one, Work other) {
        if (one.voteCount != other.voteCount) {
            return one.voteCount < other.voteCount;
        }
        return katas[one.kata].level < katas[other.kata].level;
    }

    private static int commonDivisor(int one, int other) {
        int divisor = one;
        int rest = other;
        for (int turn = 0; turn < 100 && rest != 0; turn++) {
            int next = divisor % rest;
            divisor = rest;
            rest = next;
        }
        return divisor;
    }

    private float pointsOf(int member) {
        takeWorks(member);
        return takenPoints();
    }

    private int beltOf(int member) {
        takeWorks(member);
        return takenBelt();
    }

    /** Leaves in takenRow which work of the member is taken for each kata. */
    private void takeWorks(int member) {
        takeNone();
        for (int work = 0; work < workCount; work++) {
            Work seen = works[work];
            if (seen.owner == member && seen.isCounted()) {
                int taken = takenRow[seen.kata];
                if (taken == NONE || seen.hasGreaterStyleThan(works[taken])) {
                    takenRow[seen.kata] = work;
                }
            }
        }
    }

    private void takeNone() {
        for (int kata = 0; kata < MOST_KATAS; kata++) {
            takenRow[kata] = NONE;
        }
    }

    private float takenPoints() {
        float points = 0.0f;
        for (int kata = 0; kata < kataCount; kata++) {
            int taken = takenRow[kata];
            if (taken != NONE) {
                int product = katas[kata].level * works[taken].styleAbove();
                int weights = works[taken].styleUnder();
                points = points + (weights == 0 ? 0.0f : (float) product / (float) weights);
            }
        }
        return points;
    }

    private int takenBelt() {
        int takenCount = 0;
        for (int kata = 0; kata < kataCount; kata++) {
            takenCount += takenRow[kata] == NONE ? 0 : 1;
        }
        float points = takenPoints();
        int belt = 0;
        for (int next = 1; next <= MOST_BELT; next++) {
            if (takenCount >= next && points >= (float) (2 * next * (next + 1))) {
                belt = next;
            }
        }
        return belt;
    }

    private boolean isRankedBefore(int one, int other) {
        int belt = beltOf(one);
        int otherBelt = beltOf(other);
        if (belt != otherBelt) {
            return belt > otherBelt;
        }
        float points = pointsOf(one);
        float otherPoints = pointsOf(other);
        if (points != otherPoints) {
            return points > otherPoints;
        }
        return one < other;
    }

    // ---- how challenges end ----

    private boolean isTheBody(Program program, Work work) {
        if (program.length != work.length || program.sumOfAll() != work.sum) {
            return false;
        }
        Kata kata = katas[work.kata];
        for (int test = 0; test < work.keptCount && test < kata.testCount; test++) {
            boolean isNewSince = kata.tests[test].changedAt > work.keptAt;
            if (!isNewSince && stepsDoneBy(program, kata.tests[test]) != work.keptSteps[test]) {
                return false;
            }
        }
        return true;
    }

    private char closeByBody(int work, Program body, Member teller) {
        Work closed = works[work];
        closeChallenge(work);
        closed.regain(body);
        char verdict = verdictOn(closed);
        closed.state = verdict;
        makeRoom();
        if (verdict == PASSING) {
            teller.honour += TELLER_GAIN;
            return PASSING;
        }
        members[closed.challenger].honour += CHALLENGER_GAIN;
        if (closed.isBodied) {
            dropBody(closed);
        }
        return BROKEN;
    }

    private void closeChallenge(int work) {
        int kept = 0;
        for (int index = 0; index < openCount; index++) {
            if (openWorks[index] != work) {
                openWorks[kept] = openWorks[index];
                kept++;
            }
        }
        openCount = kept;
    }

    // ---- what isSound() looks at ----

    private boolean areBodiesSound() {
        for (int work = 0; work < workCount; work++) {
            Work seen = works[work];
            if (seen.isBodied && (seen.body.sumOfAll() != seen.sum || seen.state != verdictOn(seen))) {
                return false;
            }
        }
        return true;
    }

    private boolean areBeltsSound() {
        for (int work = 0; work < workCount; work++) {
            if (!works[work].areSumsOfVotes()) {
                return false;
            }
        }
        for (int member = 0; member < memberCount; member++) {
            if (beltOf(member) != beltFromBehind(member)) {
                return false;
            }
        }
        return true;
    }

    /** The points are still added by rising katas, as another order of floats could round otherwise. */
    private int beltFromBehind(int member) {
        takeNone();
        for (int work = workCount - 1; work >= 0; work--) {
            Work seen = works[work];
            if (seen.owner == member && seen.isCounted()) {
                int taken = takenRow[seen.kata];
                if (taken == NONE || !works[taken].hasGreaterStyleThan(seen)) {
                    takenRow[seen.kata] = work;
                }
            }
        }
        return takenBelt();
    }

    private boolean areChallengesSound() {
        int challenged = 0;
        for (int work = 0; work < workCount; work++) {
            if (works[work].state == CHALLENGED) {
                challenged++;
            }
        }
        for (int index = 0; index < openCount; index++) {
            if (works[openWorks[index]].state != CHALLENGED || isOpenTwice(index)) {
                return false;
            }
        }
        return challenged == openCount;
    }

    private boolean isOpenTwice(int index) {
        for (int earlier = 0; earlier < index; earlier++) {
            if (openWorks[earlier] == openWorks[index]) {
                return true;
            }
        }
        return false;
    }

    /** Steps, each a letter and a number; the number is 0 where it has no meaning. */
    static final class Program {
        final char[] letters = new char[MOST_STEPS];
        final int[] numbers = new int[MOST_STEPS];
        int length = 0;

        void append(char letter, int number) {
            if (length < MOST_STEPS) {
                letters[length] = letter;
                numbers[length] = number;
                length++;
            }
        }

        void erase() {
            length = 0;
        }

        void take(Program other) {
            length = other.length;
            for (int index = 0; index < length; index++) {
                letters[index] = other.letters[index];
                numbers[index] = other.numbers[index];
            }
        }

        boolean isWhole() {
            int openBrackets = 0;
            for (int index = 0; index < length; index++) {
                if (letters[index] == '[') {
                    openBrackets++;
                } else if (letters[index] == ']') {
                    openBrackets--;
                }
                if (openBrackets < 0) {
                    return false;
                }
            }
            return openBrackets == 0;
        }

        long sumOfAll() {
            long sum = FIRST_SUM;
            for (int index = 0; index < length; index++) {
                sum = sum * FACTOR + letters[index];
                sum = sum * FACTOR + numbers[index];
            }
            return sum;
        }
    }

    /** An input and an expected output; the one that is typed is held in the same form. */
    static final class Test {
        final int[] inputs = new int[MOST_INPUTS];
        final int[] expected = new int[MOST_EXPECTED];
        int inputCount = 0;
        int expectedCount = 0;
        int changedAt = 0;

        int addInput(int number) {
            if (inputCount < MOST_INPUTS) {
                inputs[inputCount] = number;
                inputCount++;
            }
            return inputCount;
        }

        int addExpected(int number) {
            if (expectedCount < MOST_EXPECTED) {
                expected[expectedCount] = number;
                expectedCount++;
            }
            return expectedCount;
        }

        void erase() {
            inputCount = 0;
            expectedCount = 0;
        }

        void take(Test other) {
            inputCount = other.inputCount;
            expectedCount = other.expectedCount;
            for (int index = 0; index < inputCount; index++) {
                inputs[index] = other.inputs[index];
            }
            for (int index = 0; index < expectedCount; index++) {
                expected[index] = other.expected[index];
            }
        }
    }

    static final class Kata {
        final Test[] tests = new Test[MOST_TESTS];
        int testCount = 0;
        int level = 0;

        Kata() {
            for (int index = 0; index < MOST_TESTS; index++) {
                tests[index] = new Test();
            }
        }
    }

    /** Runs a whole program by a test; what the run left behind stays to be looked at. */
    static final class Machine {
        final int[] stack = new int[MOST_STACK];
        final int[] outputs = new int[MOST_OUTPUTS];
        final int[] partners = new int[MOST_STEPS];
        final int[] opened = new int[MOST_STEPS];
        int depth = 0;
        int outputCount = 0;
        int stepsDone = 0;
        int inputsTaken = 0;
        int place = 0;

        char execute(Program program, Test test) {
            pairBrackets(program);
            depth = 0;
            outputCount = 0;
            stepsDone = 0;
            inputsTaken = 0;
            place = 0;
            for (int turn = 0; turn <= MOST_DONE && place < program.length; turn++) {
                char letter = program.letters[place];
                char error = errorOf(letter, test);
                if (error != NO_ERROR) {
                    return error;
                }
                perform(letter, program.numbers[place], test);
                stepsDone++;
            }
            return isAsExpected(test) ? AS_EXPECTED : WRONG;
        }

        private void pairBrackets(Program program) {
            int openBrackets = 0;
            for (int index = 0; index < program.length; index++) {
                partners[index] = index;
                if (program.letters[index] == '[') {
                    opened[openBrackets] = index;
                    openBrackets++;
                } else if (program.letters[index] == ']' && openBrackets > 0) {
                    openBrackets--;
                    partners[index] = opened[openBrackets];
                    partners[opened[openBrackets]] = index;
                }
            }
        }

        private char errorOf(char letter, Test test) {
            if (stepsDone >= MOST_DONE) {
                return 't';
            }
            if (depth < neededBy(letter)) {
                return 'u';
            }
            if (letter == 'i' && inputsTaken >= test.inputCount) {
                return 'e';
            }
            if (letter == '%' && numberUnder(0) == 0) {
                return 'z';
            }
            boolean isPushing = letter == 'n' || letter == 'i' || letter == 'd';
            if (isPushing && depth >= MOST_STACK) {
                return 'v';
            }
            if (letter == 'o' && outputCount >= MOST_OUTPUTS) {
                return 'l';
            }
            return NO_ERROR;
        }

        private static int neededBy(char letter) {
            switch (letter) {
                case 'n':
                case 'i':
                    return 0;
                case 'd':
                case 'p':
                case 'o':
                case '[':
                case ']':
                    return 1;
                default:
                    return 2;
            }
        }

        private void perform(char letter, int number, Test test) {
            int top = numberUnder(0);
            int below = numberUnder(1);
            int next = place + 1;
            switch (letter) {
                case 'n':
                    replace(0, number);
                    break;
                case 'i':
                    replace(0, nextInput(test));
                    break;
                case '+':
                    replace(2, below + top);
                    break;
                case '-':
                    replace(2, below - top);
                    break;
                case '*':
                    replace(2, below * top);
                    break;
                case '%':
                    replace(2, top == 0 ? 0 : below % top);
                    break;
                case 'd':
                    replace(0, top);
                    break;
                case 's':
                    replace(2, top);
                    replace(0, below);
                    break;
                case 'p':
                    pop();
                    break;
                case 'o':
                    pop();
                    write(top);
                    break;
                case '[':
                    next = top == 0 ? partners[place] + 1 : next;
                    break;
                case ']':
                    next = top != 0 ? partners[place] + 1 : next;
                    break;
                default:
                    break;
            }
            place = next;
        }

        private int numberUnder(int down) {
            int index = depth - 1 - down;
            return index >= 0 && index < MOST_STACK ? stack[index] : 0;
        }

        private void pop() {
            depth = depth > 0 ? depth - 1 : 0;
        }

        /** Pops some numbers and pushes one. */
        private void replace(int popped, int number) {
            depth = depth >= popped ? depth - popped : 0;
            if (depth < MOST_STACK) {
                stack[depth] = number;
                depth++;
            }
        }

        private int nextInput(Test test) {
            if (inputsTaken >= test.inputCount) {
                return 0;
            }
            inputsTaken++;
            return test.inputs[inputsTaken - 1];
        }

        private void write(int number) {
            if (outputCount < MOST_OUTPUTS) {
                outputs[outputCount] = number;
                outputCount++;
            }
        }

        private boolean isAsExpected(Test test) {
            if (outputCount != test.expectedCount) {
                return false;
            }
            for (int index = 0; index < outputCount; index++) {
                if (outputs[index] != test.expected[index]) {
                    return false;
                }
            }
            return true;
        }
    }

    static final class Member {
        final Program[] copies = new Program[MOST_COPIES];
        final int[] copyWorks = new int[MOST_COPIES];
        int copyCount = 0;
        int honour = FIRST_HONOUR;

        Member() {
            for (int index = 0; index < MOST_COPIES; index++) {
                copies[index] = new Program();
            }
        }

        int placeOfCopy(int work) {
            for (int index = 0; index < copyCount; index++) {
                if (copyWorks[index] == work) {
                    return index;
                }
            }
            return NONE;
        }

        void keepCopy(int work, Program body) {
            int place = placeOfCopy(work);
            if (place == NONE && copyCount < MOST_COPIES) {
                place = copyCount;
                copyCount++;
            }
            if (place == NONE) {
                place = 0;
            }
            Program row = copies[place];
            for (int index = place; index + 1 < copyCount; index++) {
                copies[index] = copies[index + 1];
                copyWorks[index] = copyWorks[index + 1];
            }
            int newest = copyCount - 1;
            copies[newest] = row;
            copyWorks[newest] = work;
            // By value, as another program than the first may be taken for the body later.
            row.take(body);
        }
    }

    /** A work; of one without a body, what is kept of it. */
    static final class Work {
        final Program body = new Program();
        final int[] keptSteps = new int[MOST_TESTS];
        // A vote of 0 stands for none.
        final int[] votes = new int[MOST_MEMBERS];
        final int[] weights = new int[MOST_MEMBERS];
        int voteCount = 0;
        int weightSum = 0;
        int votesTimesWeights = 0;
        int owner = 0;
        int kata = 0;
        int length = 0;
        long sum = 0;
        char state = PASSING;
        boolean isBodied = false;
        int keptCount = 0;
        int keptAt = 0;
        int challenger = 0;
        int daysLeft = 0;

        void begin(int member, int kataNumber, Program program) {
            owner = member;
            kata = kataNumber;
            length = program.length;
            sum = program.sumOfAll();
            state = PASSING;
            regain(program);
        }

        void regain(Program program) {
            body.take(program);
            isBodied = true;
        }

        boolean isCounted() {
            return state == PASSING || state == PROVED || state == CHALLENGED;
        }

        void takeVote(int member, int style, int weight) {
            voteCount += votes[member] == 0 ? 1 : 0;
            weightSum += weight - weights[member];
            votesTimesWeights += style * weight - votes[member] * weights[member];
            votes[member] = style;
            weights[member] = weight;
        }

        boolean areSumsOfVotes() {
            int sumOfWeights = 0;
            int sumOfProducts = 0;
            for (int member = MOST_MEMBERS - 1; member >= 0; member--) {
                sumOfWeights += weights[member];
                sumOfProducts += votes[member] * weights[member];
            }
            return sumOfWeights == weightSum && sumOfProducts == votesTimesWeights;
        }

        /** The style is styleAbove() divided by styleUnder(), 1 without votes. */
        int styleAbove() {
            return weightSum == 0 ? 1 : votesTimesWeights;
        }

        int styleUnder() {
            return weightSum == 0 ? 1 : weightSum;
        }

        boolean hasGreaterStyleThan(Work other) {
            return styleAbove() * other.styleUnder() > other.styleAbove() * styleUnder();
        }
    }
}
