/** Promises 4 to 7, 17 and 18: disks, cut writes, crashes, restarts, words and accesses. */
public final class FaultTest {
    private static final int EJECT_1 = Check.entry(2, 1, 0, 0, 0, 0);

    public static void main(String[] args) {
        disks();
        cutFirstWrites();
        cutSecondWrites();
        cutThirdWrites();
        cutWritesSayNothing();
        nothingToCut();
        crashes();
        restarts();
        words();
        accesses();
        wrongArguments();
        Check.end();
    }

    private static void disks() {
        DiskArbiters x = new DiskArbiters();
        for (int d = 0; d < 3; d++) {
            Check.due("works already", x.disk(d, true), false);
            Check.due("fails", x.disk(d, false), true);
            Check.due("has failed already", x.disk(d, false), false);
        }
        Check.due("works again", x.disk(1, true), true);
        x.want(0, 2, 1, 0, 0);
        Check.steps(x, "disk 1 alone works", 0, 2, 3, 4, 5, 5, 3);
        Check.due("works again", x.disk(2, true), true);
        Check.due("fails", x.disk(1, false), true);
        Check.block(x, "what a failed disk has", 1, 0, 0, 1, 1, 0, 0, 1);
        x.disk(1, true);
        Check.block(x, "what it still has", 1, 0, 0, 1, 1, 0, 0, 1);
        x.want(2, 2, 1, 0, 0);
        Check.steps(x, "it is read again", 2, 2, 3, 4);
        Check.due("round 1 is no rival", x.step(2), 5);
        Check.block(x, "nothing at the failed disk", 0, 0, 0);
    }

    /** A controller with a vote: the next step writes at disk 0 for phase 2. */
    private static DiskArbiters voted() {
        DiskArbiters x = new DiskArbiters();
        x.want(0, 2, 1, 0, 0);
        Check.steps(x, "to the vote", 0, 2, 4, 5, 5, 4, 5, 7);
        return x;
    }

    private static void cut(DiskArbiters x, int keep) {
        int before = x.accesses(0);
        Check.due("cut behind " + keep, x.tear(0, keep), true);
        Check.due("it is down", x.phase(0), -1);
        Check.due("a cut write counts", x.accesses(0), before + 1);
    }

    /** The first words, then those that were there before. */
    private static int[] over(int keep, int at, int[] news, int... before) {
        int[] words = before.clone();
        System.arraycopy(news, 0, words, at, keep);
        return words;
    }

    private static void cutFirstWrites() {
        for (int keep = 0; keep <= 5; keep++) {
            DiskArbiters x = new DiskArbiters();
            x.want(0, 2, 1, 0, 0);
            Check.steps(x, "start", 0, 2);
            cut(x, keep);
            int[] first = {1, 1, 0, 0, 1};
            Check.block(x, "first write, cut", 0, 0, 0, over(keep, 0, first, 0, 0, 0, 0, 0, 0, 0, 0, 0, 0));
            Check.due("started stays", x.round(0), 1);
            x.restart(0);
            Check.steps(x, "again", 0, 2, 4);
            if (keep < 5) {
                Check.block(x, "slot 0 again", 0, 0, 0, 1, 4, 0, 0, 1);
            } else {
                Check.block(x, "the other slot", 0, 0, 0, 1, 1, 0, 0, 1, 2, 4, 0, 0, 2);
            }
        }
    }

    private static void cutSecondWrites() {
        for (int keep = 0; keep <= 5; keep++) {
            DiskArbiters x = voted();
            cut(x, keep);
            int[] second = {2, 1, 1, EJECT_1, 2};
            Check.block(x, "second write, cut", 0, 0, 0, over(keep, 5, second, 1, 1, 0, 0, 1, 0, 0, 0, 0, 0));
            Check.due("the vote stays", x.vote(0, true), EJECT_1);
            x.restart(0);
            Check.steps(x, "again", 0, 2, 4);
            if (keep < 5) {
                Check.block(x, "slot 1 again", 0, 0, 0, 1, 1, 0, 0, 1, 2, 4, 1, EJECT_1, 2);
            } else {
                Check.block(x, "slot 0 again", 0, 0, 0, 3, 4, 1, EJECT_1, 3, 2, 1, 1, EJECT_1, 2);
            }
        }
    }

    private static void cutThirdWrites() {
        for (int keep = 0; keep <= 5; keep++) {
            DiskArbiters x = voted();
            Check.steps(x, "second write", 0, 4);
            x.crash(0);
            x.restart(0);
            Check.steps(x, "start", 0, 2);
            cut(x, keep);
            int[] third = {3, 4, 1, EJECT_1, 3};
            Check.block(x, "third write, cut", 0, 0, 0, over(keep, 0, third, 1, 1, 0, 0, 1, 2, 1, 1, EJECT_1, 2));
            x.restart(0);
            Check.steps(x, "again", 0, 2, 4);
            if (keep < 5) {
                Check.block(x, "slot 0 again", 0, 0, 0, 3, 7, 1, EJECT_1, 3, 2, 1, 1, EJECT_1, 2);
            } else {
                Check.block(x, "slot 1", 0, 0, 0, 3, 4, 1, EJECT_1, 3, 4, 7, 1, EJECT_1, 4);
            }
        }
    }

    /** What a rival reads: the round and vote of a write count only if its mark is there. */
    private static void cutWritesSayNothing() {
        for (int keep = 0; keep <= 5; keep++) {
            DiskArbiters x = voted();
            Check.steps(x, "second write", 0, 4);
            x.crash(0);
            x.restart(0);
            Check.steps(x, "start", 0, 2);
            cut(x, keep);
            x.want(1, 2, 7, 0, 0);
            Check.steps(x, "round 4 is read only if it is whole", 1, 2, 4, keep < 5 ? 5 : 6);
            if (keep < 5) {
                Check.steps(x, "the vote before it is read", 1, 5, 4, 5, 7);
                Check.due("vote", x.vote(1, true), EJECT_1);
            }
        }
        for (int keep = 0; keep <= 5; keep++) {
            DiskArbiters x = voted();
            cut(x, keep);
            x.want(1, 2, 7, 0, 0);
            Check.steps(x, "the vote is read only if it is whole", 1, 2, 4, 5, 5, 4, 5, 7);
            Check.due("vote", x.vote(1, true), keep < 5 ? Check.entry(2, 7, 0, 0, 1, 0) : EJECT_1);
        }
    }

    private static void noCut(DiskArbiters x, String what) {
        String before = Check.picture(x);
        for (int keep = 0; keep <= 5; keep++) {
            Check.due(what, x.tear(0, keep), false);
        }
        Check.due(what + ": nothing is changed", Check.picture(x), before);
    }

    private static void nothingToCut() {
        DiskArbiters x = new DiskArbiters();
        noCut(x, "no wish");
        x.want(0, 2, 1, 0, 0);
        noCut(x, "no round");
        Check.steps(x, "start", 0, 2);
        x.disk(0, false);
        noCut(x, "a failed disk");
        x.disk(0, true);
        Check.steps(x, "write", 0, 4);
        noCut(x, "a block to read");
        Check.steps(x, "read", 0, 5);
        noCut(x, "another block to read");
        Check.steps(x, "read", 0, 5);
        cut(x, 5);
        Check.block(x, "at disk 1", 1, 0, 0, 1, 1, 0, 0, 1);
        Check.thrown(x, "down", IllegalStateException.class, () -> x.tear(0, 0));
        Check.thrown(x, "down, and 6 words", IllegalArgumentException.class, () -> x.tear(0, 6));
        x.restart(0);
        noCut(x, "up again");
    }

    private static void crashes() {
        DiskArbiters x = voted();
        Check.due("was up", x.crash(0), true);
        String before = Check.picture(x);
        Check.due("was down", x.crash(0), false);
        Check.due("nothing is changed", Check.picture(x), before);
        Check.due("phase", x.phase(0), -1);
        Check.thrown(x, "no step", IllegalStateException.class, () -> x.step(0));
        Check.due("round is kept", x.round(0), 1);
        Check.due("round of vote is kept", x.vote(0, false), 1);
        Check.due("vote is kept", x.vote(0, true), EJECT_1);
        Check.due("accesses are kept", x.accesses(0), 6);
        Check.due("wish is kept", x.outcome(0, 0), 0);
        Check.due("others are up", x.phase(1), 0);
        Check.due("others are up", x.phase(2), 0);
        Check.due("others step", x.step(1), 0);
    }

    private static void restarts() {
        DiskArbiters x = voted();
        x.crash(0);
        Check.due("was down", x.restart(0), true);
        Check.due("phase", x.phase(0), 0);
        Check.due("was up", x.restart(0), false);
        Check.due("vote is kept", x.vote(0, true), EJECT_1);
        Check.steps(x, "a new round", 0, 2, 4, 5, 5, 4, 5, 7, 4, 5, 5, 4, 5, 8);
        Check.due("its round", x.round(0), 4);
        Check.due("placed", x.outcome(0, 0), 1);
        // The document says what holds behind the call, and not that a controller that is up is left alone.
        DiskArbiters y = voted();
        Check.due("was up", y.restart(0), false);
        Check.due("phase 0 all the same", y.phase(0), 0);
        Check.due("vote is kept", y.vote(0, true), EJECT_1);
        Check.steps(y, "a new round", 0, 2);
        Check.due("its round", y.round(0), 4);
    }

    private static void words() {
        DiskArbiters x = new DiskArbiters();
        x.want(2, 2, 1, 0, 0);
        x.want(2, 3, 1, 0, 0);
        Check.logOne(x, "place 0", 2);
        int eject = Check.entry(2, 1, 0, 0, 2, 0);
        int insert = Check.entry(3, 1, 0, 0, 2, 1);
        for (int d = 0; d < 2; d++) {
            Check.block(x, "two writes at disk " + d, d, 2, 0, 1, 3, 0, 0, 1, 2, 3, 3, eject, 2);
            Check.block(x, "another's block", d, 1, 0);
            Check.block(x, "another place", d, 2, 1);
        }
        Check.block(x, "no write at disk 2", 2, 2, 0);
        Check.logOne(x, "place 1", 2);
        Check.block(x, "place 1", 1, 2, 1, 1, 6, 0, 0, 1, 2, 6, 6, insert, 2);
        Check.block(x, "place 0 as before", 1, 2, 0, 1, 3, 0, 0, 1, 2, 3, 3, eject, 2);
        for (int i : new int[] {-1, 10, Integer.MIN_VALUE, Integer.MAX_VALUE}) {
            Check.thrown(x, "word " + i, IllegalArgumentException.class, () -> x.word(0, 2, 0, i));
            Check.thrown(x, "word " + i + " of disk 3", IndexOutOfBoundsException.class, () -> x.word(3, 2, 0, i));
            Check.thrown(x, "word " + i + " of controller 3", IndexOutOfBoundsException.class, () -> x.word(0, 3, 0, i));
            Check.thrown(x, "word " + i + " of place 24", IndexOutOfBoundsException.class, () -> x.word(0, 2, 24, i));
        }
        for (int n : new int[] {-1, 3, Integer.MIN_VALUE, Integer.MAX_VALUE}) {
            Check.thrown(x, "disk " + n, IndexOutOfBoundsException.class, () -> x.word(n, 0, 0, 0));
            Check.thrown(x, "controller " + n, IndexOutOfBoundsException.class, () -> x.word(0, n, 0, 0));
        }
        for (int n : new int[] {-1, 24, Integer.MIN_VALUE, Integer.MAX_VALUE}) {
            Check.thrown(x, "place " + n, IndexOutOfBoundsException.class, () -> x.word(0, 0, n, 0));
        }
    }

    private static void accesses() {
        DiskArbiters x = new DiskArbiters();
        x.want(1, 3, 1, 0, 0);
        x.want(1, 2, 1, 0, 0);
        int[] answers = {1, 2, 4, 5, 5, 4, 5, 7, 4, 5, 5, 4, 5, 8, 0};
        int due = 0;
        for (int answer : answers) {
            Check.steps(x, "counted", 1, answer);
            due += answer >= 4 ? 1 : 0;
            Check.due("accesses", x.accesses(1), due);
        }
        x.want(1, 3, 1, 0, 0);
        x.disk(0, false);
        Check.steps(x, "a failed disk does not count", 1, 2, 3);
        Check.due("accesses", x.accesses(1), 12);
        x.tear(1, 0);
        Check.due("a write of no word counts", x.accesses(1), 13);
        x.restart(1);
        Check.due("kept", x.accesses(1), 13);
        Check.due("another's", x.accesses(0), 0);
        DiskArbiters y = new DiskArbiters();
        y.want(0, 2, 1, 0, 0);
        y.want(1, 2, 1, 0, 0);
        Check.steps(y, "rival", 1, 2, 4);
        Check.steps(y, "way is given", 0, 2, 4, 6);
        Check.due("that read counts", y.accesses(0), 2);
    }

    private static void wrongArguments() {
        DiskArbiters x = new DiskArbiters();
        for (int n : new int[] {-1, 3, Integer.MIN_VALUE, Integer.MAX_VALUE}) {
            Check.thrown(x, "disk " + n, IndexOutOfBoundsException.class, () -> x.disk(n, false));
            Check.thrown(x, "disk " + n, IndexOutOfBoundsException.class, () -> x.disk(n, true));
            Check.thrown(x, "tear " + n, IndexOutOfBoundsException.class, () -> x.tear(n, 0));
            Check.thrown(x, "tear " + n + " with 6 words", IndexOutOfBoundsException.class, () -> x.tear(n, 6));
            Check.thrown(x, "crash " + n, IndexOutOfBoundsException.class, () -> x.crash(n));
            Check.thrown(x, "restart " + n, IndexOutOfBoundsException.class, () -> x.restart(n));
            Check.thrown(x, "accesses " + n, IndexOutOfBoundsException.class, () -> x.accesses(n));
        }
        for (int keep : new int[] {-1, 6, Integer.MIN_VALUE, Integer.MAX_VALUE}) {
            Check.thrown(x, "keep " + keep, IllegalArgumentException.class, () -> x.tear(0, keep));
        }
    }
}
