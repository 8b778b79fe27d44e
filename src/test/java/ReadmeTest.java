/** What README.md says of using the class. */
public final class ReadmeTest {
    public static void main(String[] args) {
        example();
        goesOnAloneAndLearns();
        oneDiskIsNotEnough();
        outbidEachOther();
        Check.end();
    }

    private static void example() {
        DiskArbiters library = new DiskArbiters();
        int wish = library.want(0, 0, 2, 1, 0);
        int steps = 0;
        while (library.outcome(0, wish) == 0 && steps < 100) {
            library.step(0);
            steps++;
        }
        Check.due("drive 1", library.holds(0, 1), 2);
        Check.due("steps", steps, 13);
    }

    /** Controller 0 goes on with each pair of disks; controller 1 learns its entry by a wish of its own. */
    private static void goesOnAloneAndLearns() {
        for (int failed = 0; failed < 3; failed++) {
            DiskArbiters x = new DiskArbiters();
            x.disk(failed, false);
            x.want(0, 2, 1, 0, 0);
            stepUntilSettled(x, 0);
            Check.due("entry without disk " + failed, x.entry(0, 0), Check.EJECT_1);
            Check.due("controller 1 does nothing without a wish", x.step(1), 0);
            Check.due("and knows nothing", x.log(1), 0);
            x.want(1, 2, 2, 0, 0);
            stepUntilSettled(x, 1);
            Check.due("what it learned", x.entry(1, 0), Check.EJECT_1);
            Check.due("its own one", x.outcome(1, 0), 2);
        }
    }

    private static void oneDiskIsNotEnough() {
        for (int working = 0; working < 3; working++) {
            DiskArbiters x = new DiskArbiters();
            x.disk((working + 1) % 3, false);
            x.disk((working + 2) % 3, false);
            x.want(0, 2, 1, 0, 0);
            stepUntilSettled(x, 0);
            Check.due("with disk " + working + " alone", x.outcome(0, 0), 0);
        }
    }

    /** Each starts a greater round while the other is in its own one. */
    private static void outbidEachOther() {
        DiskArbiters x = new DiskArbiters();
        x.want(0, 2, 1, 0, 0);
        x.want(1, 2, 2, 0, 0);
        Check.steps(x, "round 1", 0, 2, 4);
        for (int i = 0; i < 20; i++) {
            Check.steps(x, "a greater round", 1, 2, 4);
            Check.steps(x, "gives way and starts", 0, 6, 2, 4);
            Check.steps(x, "gives way", 1, 6);
        }
        Check.due("log of 0", x.log(0), 0);
        Check.due("log of 1", x.log(1), 0);
    }

    private static void stepUntilSettled(DiskArbiters x, int controller) {
        for (int steps = 0; steps < 100 && x.outcome(controller, 0) == 0; steps++) {
            x.step(controller);
        }
    }
}
