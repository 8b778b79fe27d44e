import java.util.Arrays;

/**
 * Edges of the steps of promise 3: the number of the next round, which read makes a controller give way, which two
 * disks are enough, a disk that fails halfway, and what comes behind the last disk; in both phases.
 */
public final class RoundTest {
    private static final int WISH = Check.entry(2, 7, 0, 0, 0, 0);

    /** Which disks work, what the steps answer up to the second one that is done. */
    private static final String[] ENOUGH = {"012: 4 5 5 4 5", "01: 4 5 5 4 5", "02: 4 5 5 3 4 5", "12: 3 4 5 5 4 5"};
    /** Which disk works, what the steps answer up to disk 0 again. */
    private static final String[] TOO_FEW = {"0: 4 5 5 3 3", "1: 3 4 5 5 3", "2: 3 3 4 5 5", ": 3 3 3"};

    public static void main(String[] args) {
        refusesOneAStep();
        theLeastRoundAboveAll();
        theLeastRoundAboveItsOwn();
        lesserRoundsAreNoRivals();
        givesWayAtEachRead();
        anyTwoDisksAreEnough();
        oneDiskIsDoneInVain();
        failsHalfway();
        oneDoneDiskIsForgottenBehindTheLast();
        theWishIsFirstInTime();
        manyCalls();
        Check.end();
    }

    private static int[] numbers(String text) {
        return Arrays.stream(text.trim().split(" ")).mapToInt(Integer::parseInt).toArray();
    }

    /** A controller 0 that begins a phase, at disk 0. */
    private static DiskArbiters beginning(int phase) {
        DiskArbiters x = new DiskArbiters();
        x.want(0, 2, 7, 0, 0);
        Check.steps(x, "start", 0, 2);
        if (phase == 2) {
            Check.steps(x, "to phase 2", 0, 4, 5, 5, 4, 5, 7);
        }
        Check.due("phase", x.phase(0), phase);
        return x;
    }

    private static int endOf(int phase) {
        return phase == 1 ? 7 : 8;
    }

    private static void refusesOneAStep() {
        DiskArbiters x = new DiskArbiters();
        for (int i = 0; i < 5; i++) {
            x.want(0, 3, i, 0, 0);
        }
        for (int i = 0; i < 5; i++) {
            Check.due("still waiting", x.outcome(0, i), 0);
            Check.steps(x, "refused", 0, 1);
            for (int wish = 0; wish < 5; wish++) {
                Check.due("wish " + wish, x.outcome(0, wish), wish <= i ? -1 : 0);
            }
        }
        Check.steps(x, "none is left", 0, 0, 0);
        Check.due("no round", x.round(0), 0);
        Check.due("no access", x.accesses(0), 0);
    }

    private static int roundOf(int c, int starts) {
        return 3 * (starts - 1) + c + 1;
    }

    private static int leastAbove(int c, int one, int two) {
        int round = 1;
        while (round <= one || round <= two || round % 3 != (c + 1) % 3) {
            round++;
        }
        return round;
    }

    private static void theLeastRoundAboveAll() {
        for (int reader = 0; reader < 3; reader++) {
            for (int rival = 0; rival < 3; rival++) {
                for (int starts = 0; starts < 20 && rival != reader; starts++) {
                    nextRound(reader, 1 + starts % 4, rival, 1 + starts / 4);
                }
            }
        }
    }

    private static void nextRound(int reader, int starts, int rival, int rivalStarts) {
        DiskArbiters x = new DiskArbiters();
        Check.startOften(x, rival, rivalStarts);
        Check.steps(x, "the rival writes", rival, 4);
        Check.startOften(x, reader, starts);
        int own = roundOf(reader, starts);
        int seen = roundOf(rival, rivalStarts);
        String what = "round " + own + " that sees round " + seen;
        Check.due(what, x.round(reader), own);
        Check.steps(x, what + " writes", reader, 4);
        boolean firstRead = rival == (reader == 0 ? 1 : 0);
        if (!firstRead) {
            Check.steps(x, what + " reads", reader, 5);
        }
        if (seen < own) {
            Check.steps(x, what + " goes on", reader, firstRead ? new int[] {5, 5, 4, 5, 7} : new int[] {5, 4, 5, 7});
        } else {
            Check.steps(x, what + " gives way", reader, 6);
            Check.due(what + ": phase", x.phase(reader), 0);
            Check.due(what + ": round as before", x.round(reader), own);
            Check.steps(x, what + " starts", reader, 2);
            Check.due(what + ": next round", x.round(reader), leastAbove(reader, own, seen));
        }
    }

    /** What was seen but is less than its own round does not count. */
    private static void theLeastRoundAboveItsOwn() {
        for (int reader = 0; reader < 3; reader++) {
            int rival = (reader + 1) % 3;
            DiskArbiters x = new DiskArbiters();
            Check.startOften(x, rival, 1);
            Check.steps(x, "the rival writes", rival, 4);
            Check.startOften(x, reader, 3);
            x.want(reader, 2, 7, 0, 0);
            Check.steps(x, "a whole round", reader, 4, 5, 5, 4, 5, 7, 4, 5, 5, 4, 5, 8, 2);
            Check.due("next round", x.round(reader), roundOf(reader, 4));
        }
    }

    private static void lesserRoundsAreNoRivals() {
        DiskArbiters x = new DiskArbiters();
        for (int c = 0; c < 3; c++) {
            x.want(c, 2, c, 0, 0);
            Check.steps(x, "start", c, 2, 4);
        }
        Check.steps(x, "round 3 reads rounds 1 and 2", 2, 5, 5);
        Check.steps(x, "round 2 reads rounds 1 and 3", 1, 5, 6);
        Check.steps(x, "round 1 reads round 2", 0, 6);
        Check.steps(x, "above round 2, and above round 3", 0, 2);
        Check.steps(x, "above round 2, and above round 3", 1, 2);
        Check.due("round of 0", x.round(0), 4);
        Check.due("round of 1", x.round(1), 5);
    }

    private static void givesWayAtEachRead() {
        for (int phase = 1; phase <= 2; phase++) {
            for (int disk = 0; disk < 2; disk++) {
                for (int rival = 1; rival <= 2; rival++) {
                    givesWay(phase, disk, rival);
                }
            }
        }
    }

    /** The rival comes to the disk between the write there and the read of its block. */
    private static void givesWay(int phase, int disk, int rival) {
        String what = "phase " + phase + ", disk " + disk + ", rival " + rival;
        DiskArbiters x = beginning(phase);
        Check.steps(x, what, 0, disk == 0 ? new int[] {4} : new int[] {4, 5, 5, 4});
        if (rival == 2) {
            Check.steps(x, what, 0, 5);
        }
        x.want(rival, 2, rival, 0, 0);
        Check.steps(x, what, rival, disk == 0 ? new int[] {2, 4} : new int[] {2, 4, 5, 5, 4});
        int accesses = x.accesses(0);
        Check.steps(x, what, 0, 6);
        Check.due(what + ": the read counts", x.accesses(0), accesses + 1);
        Check.due(what + ": phase", x.phase(0), 0);
        Check.due(what + ": round", x.round(0), 1);
        Check.due(what + ": vote as it was", x.vote(0, true), phase == 2 ? WISH : 0);
        Check.due(what + ": its round", x.vote(0, false), phase == 2 ? 1 : 0);
        Check.due(what + ": log", x.log(0), 0);
        Check.due(what + ": wish", x.outcome(0, 0), 0);
        Check.due(what + ": nothing to cut", x.tear(0, 5), false);
        Check.steps(x, what + ": from the beginning", 0, 2, 4);
        Check.due(what + ": next round", x.round(0), 4);
    }

    private static void work(DiskArbiters x, String disks) {
        for (int d = 0; d < 3; d++) {
            x.disk(d, disks.contains("" + d));
        }
    }

    private static void ends(DiskArbiters x, String what, int phase) {
        Check.steps(x, what, 0, endOf(phase));
        Check.due(what + ": phase", x.phase(0), phase == 1 ? 2 : 0);
        Check.due(what + ": log", x.log(0), phase - 1);
        Check.due(what + ": vote", x.vote(0, true), phase == 1 ? WISH : 0);
        Check.due(what + ": its round", x.vote(0, false), phase == 1 ? 1 : 0);
    }

    private static void anyTwoDisksAreEnough() {
        for (String asking : ENOUGH) {
            for (String voting : ENOUGH) {
                DiskArbiters x = beginning(1);
                work(x, asking.split(":")[0]);
                Check.steps(x, "disks " + asking, 0, numbers(asking.split(":")[1]));
                ends(x, "disks " + asking, 1);
                work(x, voting.split(":")[0]);
                Check.steps(x, "disks " + voting, 0, numbers(voting.split(":")[1]));
                ends(x, "disks " + voting, 2);
                Check.due("accesses", x.accesses(0), 12);
            }
        }
    }

    private static void oneDiskIsDoneInVain() {
        for (int phase = 1; phase <= 2; phase++) {
            for (String few : TOO_FEW) {
                DiskArbiters x = beginning(phase);
                work(x, few.split(":")[0]);
                for (int turn = 0; turn < 4; turn++) {
                    Check.steps(x, "phase " + phase + ", disks " + few, 0, numbers(few.split(":")[1]));
                    Check.due("phase", x.phase(0), phase);
                }
                Check.due("round", x.round(0), 1);
                work(x, "012");
                Check.steps(x, "phase " + phase + ", then all work", 0, 4, 5, 5, 4, 5);
                ends(x, "phase " + phase + ", then all work", phase);
            }
        }
    }

    /** A disk fails before it is written, behind that, or behind one read: it is not done. */
    private static void failsHalfway() {
        int[][] parts = {{}, {4}, {4, 5}};
        for (int phase = 1; phase <= 2; phase++) {
            for (int[] part : parts) {
                String what = "phase " + phase + ", behind " + part.length + " steps at ";
                DiskArbiters first = beginning(phase);
                fail(first, what + "disk 0", 0, part);
                Check.steps(first, what + "disk 0", 0, 4, 5, 5, 4, 5);
                ends(first, what + "disk 0", phase);
                DiskArbiters second = beginning(phase);
                Check.steps(second, "disk 0", 0, 4, 5, 5);
                fail(second, what + "disk 1", 1, part);
                Check.steps(second, what + "disk 1", 0, 4, 5);
                ends(second, what + "disk 1", phase);
                DiskArbiters third = beginning(phase);
                third.disk(0, false);
                Check.steps(third, "disk 1", 0, 3, 4, 5, 5);
                fail(third, what + "disk 2", 2, part);
                third.disk(0, true);
                Check.steps(third, what + "disk 2, and disk 1 does not count", 0, 4, 5, 5, 4, 5);
                ends(third, what + "disk 2", phase);
            }
        }
    }

    /** It works again at once, but the controller has gone on. */
    private static void fail(DiskArbiters x, String what, int disk, int[] part) {
        Check.steps(x, what, 0, part);
        x.disk(disk, false);
        Check.steps(x, what, 0, 3);
        x.disk(disk, true);
    }

    private static void oneDoneDiskIsForgottenBehindTheLast() {
        for (int phase = 1; phase <= 2; phase++) {
            for (int done = 0; done < 3; done++) {
                DiskArbiters x = beginning(phase);
                work(x, "" + done);
                Check.steps(x, "disk " + done + " is done", 0, numbers(TOO_FEW[done].split(":")[1]));
                int next = done == 0 ? 1 : 0;
                work(x, "" + next);
                Check.steps(x, "then disk " + next + " alone", 0, numbers(TOO_FEW[next].split(":")[1]));
                Check.due("not two in one turn", x.phase(0), phase);
                Check.due("accesses", x.accesses(0), phase == 1 ? 6 : 12);
            }
        }
    }

    /** A wish that comes during a round waits behind the first one, and a vote is for the first. */
    private static void theWishIsFirstInTime() {
        DiskArbiters x = beginning(1);
        x.want(0, 2, 6, 0, 0);
        Check.steps(x, "to the vote", 0, 4, 5, 5, 4, 5, 7);
        Check.due("the first wish", x.vote(0, true), WISH);
        x.want(0, 2, 5, 0, 0);
        Check.steps(x, "to the end", 0, 4, 5, 5, 4, 5, 8);
        Check.due("placed", x.outcome(0, 0), 1);
        Check.due("waits", x.outcome(0, 1), 0);
        Check.due("waits", x.outcome(0, 2), 0);
    }

    /** All 512 calls of an object are answered as promised. */
    private static void manyCalls() {
        DiskArbiters x = beginning(1);
        int calls = 3;
        x.disk(1, false);
        x.disk(2, false);
        calls += 2;
        for (; calls + 5 <= 511; calls += 5) {
            Check.steps(x, "call " + calls, 0, 4, 5, 5, 3, 3);
        }
        for (; calls < 511; calls++) {
            x.log(0);
        }
        Check.due("call 512", x.accesses(0), 3 * ((511 - 5) / 5));
    }
}
