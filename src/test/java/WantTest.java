/** Promises 2 and 10: want and outcome. */
public final class WantTest {
    public static void main(String[] args) {
        wishesAreNumbered();
        wrongArguments();
        fiveWait();
        sixtyInAll();
        outcomes();
        Check.end();
    }

    private static void wishesAreNumbered() {
        DiskArbiters x = new DiskArbiters();
        Check.due("first wish of 1", x.want(1, 0, 0, 0, 0), 0);
        Check.due("second wish of 1", x.want(1, 7, 7, 2, 2), 1);
        Check.due("first wish of 2", x.want(2, 0, 0, 0, 0), 0);
        x.crash(1);
        Check.due("a wish when it is down", x.want(1, 6, 3, 1, 2), 2);
        Check.due("it stays down", x.phase(1), -1);
        Check.due("a wish starts nothing", x.phase(2), 0);
        x.restart(1);
        Check.logOne(x, "mount", 1);
        Check.due("entry of wish 0", x.entry(1, 0), Check.entry(0, 0, 0, 0, 1, 0));
        Check.steps(x, "release is refused", 1, 1);
        Check.logOne(x, "reserve", 1);
        Check.due("entry of wish 2", x.entry(1, 1), 6 + 8 * 3 + 64 + 256 * 2 + 1024 + 4096 * 2);
    }

    private static void wrongArguments() {
        DiskArbiters x = new DiskArbiters();
        for (int c : new int[] {-1, 3, Integer.MIN_VALUE, Integer.MAX_VALUE}) {
            Check.thrown(x, "want of " + c, IndexOutOfBoundsException.class, () -> x.want(c, 0, 0, 0, 0));
            Check.thrown(x, "want of " + c + ", kind 8", IndexOutOfBoundsException.class, () -> x.want(c, 8, 0, 0, 0));
            Check.thrown(x, "outcome of " + c, IndexOutOfBoundsException.class, () -> x.outcome(c, 0));
        }
        for (int kind : new int[] {-1, 8, Integer.MIN_VALUE, Integer.MAX_VALUE}) {
            Check.thrown(x, "kind " + kind, IllegalArgumentException.class, () -> x.want(0, kind, 0, 0, 0));
            Check.thrown(x, "cartridge " + kind, IllegalArgumentException.class, () -> x.want(0, 0, kind, 0, 0));
        }
        for (int number : new int[] {-1, 3, Integer.MIN_VALUE, Integer.MAX_VALUE}) {
            Check.thrown(x, "drive " + number, IllegalArgumentException.class, () -> x.want(0, 0, 0, number, 0));
            Check.thrown(x, "client " + number, IllegalArgumentException.class, () -> x.want(0, 0, 0, 0, number));
        }
        Check.due("what throws counts for nothing", x.want(0, 7, 7, 2, 2), 0);
    }

    private static void fiveWait() {
        DiskArbiters x = new DiskArbiters();
        for (int i = 0; i < 5; i++) {
            Check.due("wish " + i, x.want(0, i == 0 ? 0 : 3, 1, 0, 0), i);
        }
        Check.thrown(x, "a sixth", UnsupportedOperationException.class, () -> x.want(0, 0, 0, 0, 0));
        Check.thrown(x, "a sixth of kind 8", IllegalArgumentException.class, () -> x.want(0, 8, 0, 0, 0));
        Check.due("another controller's", x.want(1, 0, 0, 0, 0), 0);
        Check.logOne(x, "the first is placed", 0);
        Check.due("then there is room", x.want(0, 3, 2, 0, 0), 5);
        Check.thrown(x, "again five", UnsupportedOperationException.class, () -> x.want(0, 0, 0, 0, 0));
        Check.steps(x, "the next is refused", 0, 1);
        Check.due("then there is room too", x.want(0, 3, 2, 0, 0), 6);
        Check.thrown(x, "five once more", UnsupportedOperationException.class, () -> x.want(0, 0, 0, 0, 0));
    }

    private static void sixtyInAll() {
        DiskArbiters x = new DiskArbiters();
        for (int i = 0; i < 60; i++) {
            Check.due("wish " + i, x.want(2, 3, 0, 0, 0), i);
            Check.steps(x, "insert of what is home", 2, 1);
        }
        Check.due("last outcome", x.outcome(2, 59), -1);
        Check.thrown(x, "wish 60", UnsupportedOperationException.class, () -> x.want(2, 3, 0, 0, 0));
        Check.thrown(x, "outcome 60", java.util.NoSuchElementException.class, () -> x.outcome(2, 60));
        Check.due("another controller's", x.want(1, 0, 0, 0, 0), 0);
    }

    private static void outcomes() {
        DiskArbiters x = new DiskArbiters();
        x.want(0, 2, 4, 0, 0);
        x.want(0, 2, 4, 0, 0);
        x.want(0, 3, 4, 0, 0);
        Check.due("waiting", x.outcome(0, 0), 0);
        for (int wish : new int[] {-1, 3, Integer.MIN_VALUE, Integer.MAX_VALUE}) {
            Check.thrown(x, "outcome " + wish, java.util.NoSuchElementException.class, () -> x.outcome(0, wish));
        }
        Check.thrown(x, "outcome of another's", java.util.NoSuchElementException.class, () -> x.outcome(1, 0));
        Check.logOne(x, "eject", 0);
        Check.due("at place 0", x.outcome(0, 0), 1);
        Check.due("the next waits", x.outcome(0, 1), 0);
        Check.steps(x, "it is refused", 0, 1);
        Check.due("refused", x.outcome(0, 1), -1);
        Check.logOne(x, "insert", 0);
        Check.due("at place 1", x.outcome(0, 2), 2);
        x.crash(0);
        Check.due("outcomes stay", x.outcome(0, 2), 2);
        Check.due("refusals stay", x.outcome(0, 1), -1);
    }
}
