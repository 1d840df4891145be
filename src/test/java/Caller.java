/** Calls a method of the face by its name; arguments that a method does not have are left out. */
final class Caller {
    private Caller() {
    }

    static Object call(Katacode x, String name, int a, int b, int c) {
        return switch (name) {
            case "step" -> x.step((char) a, b);
            case "wipe" -> x.wipe();
            case "number" -> x.number(a, b != 0);
            case "clear" -> x.clear();
            case "kata" -> x.kata(a);
            case "test" -> x.test(a);
            case "fix" -> x.fix(a, b);
            case "tests" -> x.tests(a);
            case "run" -> x.run(a, b);
            case "done" -> x.done();
            case "outputs" -> x.outputs();
            case "output" -> x.output(a);
            case "depth" -> x.depth();
            case "member" -> x.member();
            case "submit" -> x.submit(a, b);
            case "works" -> x.works();
            case "of" -> x.of(a, (char) b);
            case "state" -> x.state(a);
            case "sum" -> x.sum(a);
            case "steps" -> x.steps(a, b);
            case "hasBody" -> x.hasBody(a);
            case "letter" -> x.letter(a, b);
            case "drop" -> x.drop(a);
            case "capacity" -> x.capacity(a);
            case "bodies" -> x.bodies();
            case "read" -> x.read(a, b);
            case "copy" -> x.copy(a, b);
            case "vote" -> x.vote(a, b, c);
            case "style" -> x.style(a, b != 0);
            case "review" -> x.review(a);
            case "best" -> x.best(a, b);
            case "points" -> x.points(a);
            case "belt" -> x.belt(a);
            case "honour" -> x.honour(a);
            case "ranked" -> x.ranked(a);
            case "challenge" -> x.challenge(a, b);
            case "give" -> x.give(a, b);
            case "answer" -> x.answer(a, b);
            case "open" -> x.open(a);
            case "left" -> x.left(a);
            case "days" -> x.days(a);
            case "checksum" -> x.checksum();
            case "standingShare" -> x.standingShare();
            case "meanSteps" -> x.meanSteps(a);
            case "isSound" -> x.isSound();
            default -> throw new AssertionError(name);
        };
    }
}
