/** Promises 2 and 10: want and outcome. */
public final class WantTest {
    public static void main(String[] args) {
        wishesAreNumbered();
        fiveWait();
        fiveWaitOfOneThatIsDown();
        sixtyInAll();
        theGreatestEntry();
        theLeastEntry();
        outcomes();
        Check.end();
    }

    private static void wishesAreNumbered() {
        DiskArbiters x = new DiskArbiters();
        Check.due("first wish of 1", x.want(1, 0, 0, 0, 0), 0);
        Check.due("second wish of 1", x.want(1, 7, 7, 2, 2), 1);
        Check.due("first wish of 2", x.want(2, 0, 0, 0, 0), 0);
        x.crash(1);
        Check.due("a wish when it is down", x.want(1, 6, 3, 1, 2), 2);
        Check.due("it stays down", x.phase(1), -1);
        Check.due("a wish starts nothing", x.phase(2), 0);
        x.restart(1);
        Check.logOne(x, "mount", 1);
        Check.due("entry of wish 0", x.entry(1, 0), Check.entry(0, 0, 0, 0, 1, 0));
        Check.steps(x, "release is refused", 1, 1);
        Check.logOne(x, "reserve", 1);
        Check.due("entry of wish 2", x.entry(1, 1), 6 + 8 * 3 + 64 + 256 * 2 + 1024 + 4096 * 2);
    }

    private static void fiveWait() {
        DiskArbiters x = new DiskArbiters();
        for (int i = 0; i < 5; i++) {
            Check.due("wish " + i, x.want(0, i == 0 ? 0 : 3, 1, 0, 0), i);
        }
        Check.thrown(x, "a sixth", UnsupportedOperationException.class, () -> x.want(0, 0, 0, 0, 0));
        Check.thrown(x, "a sixth of kind 8", IllegalArgumentException.class, () -> x.want(0, 8, 0, 0, 0));
        Check.due("another controller's", x.want(1, 0, 0, 0, 0), 0);
        Check.logOne(x, "the first is placed", 0);
        Check.due("then there is room", x.want(0, 3, 2, 0, 0), 5);
        Check.thrown(x, "again five", UnsupportedOperationException.class, () -> x.want(0, 0, 0, 0, 0));
        Check.steps(x, "the next is refused", 0, 1);
        Check.due("then there is room too", x.want(0, 3, 2, 0, 0), 6);
        Check.thrown(x, "five once more", UnsupportedOperationException.class, () -> x.want(0, 0, 0, 0, 0));
    }

    private static void fiveWaitOfOneThatIsDown() {
        DiskArbiters x = new DiskArbiters();
        x.crash(2);
        for (int i = 0; i < 5; i++) {
            Check.due("wish " + i, x.want(2, 3, 1, 0, 0), i);
        }
        Check.thrown(x, "a sixth", UnsupportedOperationException.class, () -> x.want(2, 0, 0, 0, 0));
        x.restart(2);
        Check.thrown(x, "a sixth, up again", UnsupportedOperationException.class, () -> x.want(2, 0, 0, 0, 0));
        Check.steps(x, "the first is refused", 2, 1);
        x.crash(2);
        Check.due("then there is room", x.want(2, 3, 1, 0, 0), 5);
        Check.thrown(x, "a seventh", UnsupportedOperationException.class, () -> x.want(2, 0, 0, 0, 0));
    }

    private static void sixtyInAll() {
        DiskArbiters x = new DiskArbiters();
        for (int i = 0; i < 60; i++) {
            Check.due("wish " + i, x.want(2, 3, 0, 0, 0), i);
            Check.steps(x, "insert of what is home", 2, 1);
        }
        Check.due("last outcome", x.outcome(2, 59), -1);
        Check.thrown(x, "wish 60", UnsupportedOperationException.class, () -> x.want(2, 3, 0, 0, 0));
        Check.thrown(x, "outcome 60", java.util.NoSuchElementException.class, () -> x.outcome(2, 60));
        Check.due("another controller's", x.want(1, 0, 0, 0, 0), 0);
    }

    /** The last wish, of the last kind, with the last of all that it names. */
    private static void theGreatestEntry() {
        DiskArbiters x = new DiskArbiters();
        for (int i = 0; i < 58; i++) {
            x.want(2, 7, 7, 2, 2);
            Check.steps(x, "release of what is not reserved", 2, 1);
        }
        x.want(2, 6, 7, 2, 2);
        Check.logOne(x, "reserve", 2);
        Check.due("the sixtieth", x.want(2, 7, 7, 2, 2), 59);
        Check.due("the last one waits", x.outcome(2, 59), 0);
        Check.logOne(x, "release", 2);
        Check.due("the greatest entry", x.entry(2, 1), 7 + 8 * 7 + 64 * 2 + 256 * 2 + 1024 * 2 + 4096 * 59);
        Check.due("its word", x.word(1, 2, 1, 8), 244415);
        Check.due("the last one is placed", x.outcome(2, 59), 2);
        Check.due("the one before it", x.outcome(2, 58), 1);
        Check.due("nothing else", x.outcome(2, 57), -1);
    }

    private static void theLeastEntry() {
        DiskArbiters x = new DiskArbiters();
        x.want(0, 0, 0, 0, 0);
        Check.logOne(x, "mount", 0);
        Check.due("the least entry", x.entry(0, 0), 0);
        Check.due("placed", x.outcome(0, 0), 1);
        Check.due("done", x.holds(0, 0), 0);
    }

    private static void outcomes() {
        DiskArbiters x = new DiskArbiters();
        x.want(0, 2, 4, 0, 0);
        x.want(0, 2, 4, 0, 0);
        x.want(0, 3, 4, 0, 0);
        Check.due("waiting", x.outcome(0, 0), 0);
        for (int wish : new int[] {-1, 3, Integer.MIN_VALUE, Integer.MAX_VALUE}) {
            Check.thrown(x, "outcome " + wish, java.util.NoSuchElementException.class, () -> x.outcome(0, wish));
        }
        Check.thrown(x, "outcome of another's", java.util.NoSuchElementException.class, () -> x.outcome(1, 0));
        Check.logOne(x, "eject", 0);
        Check.due("at place 0", x.outcome(0, 0), 1);
        Check.due("the next waits", x.outcome(0, 1), 0);
        Check.steps(x, "it is refused", 0, 1);
        Check.due("refused", x.outcome(0, 1), -1);
        Check.logOne(x, "insert", 0);
        Check.due("at place 1", x.outcome(0, 2), 2);
        x.crash(0);
        Check.due("outcomes stay", x.outcome(0, 2), 2);
        Check.due("refusals stay", x.outcome(0, 1), -1);
    }
}
