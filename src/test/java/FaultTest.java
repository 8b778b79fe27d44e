/** Promises 4 to 7 and 18: disks, cut writes, crashes, restarts and accesses. */
public final class FaultTest {
    public static void main(String[] args) {
        disks();
        aFailedDiskIsNotWritten();
        aFailedDiskIsNotRead();
        nothingToCut();
        cutOrNotAtEachStep();
        crashes();
        crashAtEachStep();
        restarts();
        restartAtEachStep();
        restartForgetsTheRoundsSeen();
        wordsOfAFailedDisk();
        accesses();
        Check.end();
    }

    private static void disks() {
        DiskArbiters x = new DiskArbiters();
        for (int d = 0; d < 3; d++) {
            Check.due("works already", x.disk(d, true), false);
            Check.due("fails", x.disk(d, false), true);
            Check.due("has failed already", x.disk(d, false), false);
        }
        Check.due("works again", x.disk(1, true), true);
        x.want(0, 2, 1, 0, 0);
        Check.steps(x, "disk 1 alone works", 0, 2, 3, 4, 5, 5, 3);
        Check.due("works again", x.disk(2, true), true);
        Check.due("fails", x.disk(1, false), true);
        Check.block(x, "what a failed disk has", 1, 0, 0, 1, 1, 0, 0, 1);
        x.disk(1, true);
        Check.block(x, "what it still has", 1, 0, 0, 1, 1, 0, 0, 1);
        x.want(2, 2, 1, 0, 0);
        Check.steps(x, "it is read again", 2, 2, 3, 4);
        Check.due("round 1 is no rival", x.step(2), 5);
        Check.block(x, "nothing at the failed disk", 0, 0, 0);
    }

    private static void aFailedDiskIsNotWritten() {
        for (int d = 0; d < 3; d++) {
            DiskArbiters x = new DiskArbiters();
            x.want(1, 2, 1, 0, 0);
            x.disk(d, false);
            Check.steps(x, "start", 1, 2);
            for (int answers = 0; x.log(1) == 0 && answers < 20; answers++) {
                x.step(1);
            }
            Check.due("two disks are enough", x.log(1), 1);
            Check.due("accesses at two disks", x.accesses(1), 12);
            Check.block(x, "failed disk " + d, d, 1, 0);
            Check.due("works again", x.disk(d, true), true);
            Check.block(x, "failed disk " + d + " back", d, 1, 0);
        }
    }

    /** Controller 2's greater round is at disk 0 alone, which fails before it is read. */
    private static void aFailedDiskIsNotRead() {
        for (int reads = 0; reads < 2; reads++) {
            DiskArbiters x = new DiskArbiters();
            x.want(0, 2, 1, 0, 0);
            x.want(2, 2, 1, 0, 0);
            Check.steps(x, "the greater round", 2, 2, 4);
            Check.steps(x, "up to the read", 0, reads == 0 ? new int[] {2, 4} : new int[] {2, 4, 5});
            x.disk(0, false);
            Check.steps(x, "passed by", 0, 3);
            Check.due("accesses", x.accesses(0), 1 + reads);
            x.disk(0, true);
            Check.steps(x, "nothing was read there", 0, 4, 5, 5, 4, 5, 7);
            Check.steps(x, "what it has is read when it is back", 0, 4, 5, 6, 2);
            Check.due("round behind what was read", x.round(0), 4);
        }
    }

    private static void cut(DiskArbiters x, int keep) {
        int before = x.accesses(0);
        Check.due("cut behind " + keep, x.tear(0, keep), true);
        Check.due("it is down", x.phase(0), -1);
        Check.due("a cut write counts", x.accesses(0), before + 1);
    }

    private static void noCut(DiskArbiters x, String what) {
        String before = Check.picture(x);
        for (int keep = 0; keep <= 5; keep++) {
            Check.due(what, x.tear(0, keep), false);
        }
        Check.due(what + ": nothing is changed", Check.picture(x), before);
    }

    private static void nothingToCut() {
        DiskArbiters x = new DiskArbiters();
        noCut(x, "no wish");
        x.want(0, 2, 1, 0, 0);
        noCut(x, "no round");
        Check.steps(x, "start", 0, 2);
        x.disk(0, false);
        noCut(x, "a failed disk");
        x.disk(0, true);
        Check.steps(x, "write", 0, 4);
        noCut(x, "a block to read");
        Check.steps(x, "read", 0, 5);
        noCut(x, "another block to read");
        Check.steps(x, "read", 0, 5);
        cut(x, 5);
        Check.block(x, "at disk 1", 1, 0, 0, 1, 1, 0, 0, 1);
        Check.thrown(x, "down", IllegalStateException.class, () -> x.tear(0, 0));
        Check.thrown(x, "down, and 6 words", IllegalArgumentException.class, () -> x.tear(0, 6));
        x.restart(0);
        noCut(x, "up again");
    }

    private static DiskArbiters after(int steps) {
        DiskArbiters x = new DiskArbiters();
        x.want(0, 2, 1, 0, 0);
        for (int i = 0; i < steps; i++) {
            Check.steps(x, "on the way", 0, Check.ASKING_AND_VOTING[i]);
        }
        return x;
    }

    /** A write is cut just where the next step would be one. */
    private static void cutOrNotAtEachStep() {
        for (int steps = 0; steps <= 13; steps++) {
            boolean writes = steps < 13 && Check.ASKING_AND_VOTING[steps] == 4;
            if (writes) {
                DiskArbiters x = after(steps);
                int round = x.round(0);
                int vote = x.vote(0, true);
                cut(x, steps % 6);
                Check.due("round stays", x.round(0), round);
                Check.due("vote stays", x.vote(0, true), vote);
                Check.due("was down", x.crash(0), false);
            } else {
                noCut(after(steps), "behind " + steps + " steps");
            }
        }
    }

    private static void crashes() {
        DiskArbiters x = Check.voted();
        Check.due("was up", x.crash(0), true);
        String before = Check.picture(x);
        Check.due("was down", x.crash(0), false);
        Check.due("nothing is changed", Check.picture(x), before);
        Check.due("phase", x.phase(0), -1);
        Check.thrown(x, "no step", IllegalStateException.class, () -> x.step(0));
        Check.due("round is kept", x.round(0), 1);
        Check.due("round of vote is kept", x.vote(0, false), 1);
        Check.due("vote is kept", x.vote(0, true), Check.EJECT_1);
        Check.due("accesses are kept", x.accesses(0), 6);
        Check.due("wish is kept", x.outcome(0, 0), 0);
        Check.due("others are up", x.phase(1), 0);
        Check.due("others are up", x.phase(2), 0);
        Check.due("others step", x.step(1), 0);
    }

    private static void fileIs(DiskArbiters x, String what, int steps) {
        Check.due(what + ": log", x.log(0), steps == 13 ? 1 : 0);
        Check.due(what + ": outcome", x.outcome(0, 0), steps == 13 ? 1 : 0);
        Check.due(what + ": round", x.round(0), steps == 0 ? 0 : 1);
        Check.due(what + ": round of vote", x.vote(0, false), steps >= 7 && steps < 13 ? 1 : 0);
        Check.due(what + ": entry of vote", x.vote(0, true), steps >= 7 && steps < 13 ? Check.EJECT_1 : 0);
        Check.due(what + ": where", x.where(0, 1), steps == 13 ? 4 : 3);
    }

    private static void crashAtEachStep() {
        for (int steps = 0; steps <= 13; steps++) {
            DiskArbiters x = after(steps);
            String what = "crash behind " + steps + " steps";
            int accesses = x.accesses(0);
            Check.due(what, x.crash(0), true);
            Check.due(what + ": phase", x.phase(0), -1);
            fileIs(x, what, steps);
            Check.due(what + ": restart", x.restart(0), true);
            Check.due(what + ": phase again", x.phase(0), 0);
            fileIs(x, what + ", up again", steps);
            Check.due(what + ": accesses", x.accesses(0), accesses);
            goesOnFromPhase0(x, what, steps);
        }
    }

    private static void goesOnFromPhase0(DiskArbiters x, String what, int steps) {
        if (steps == 13) {
            Check.steps(x, what + ", no wish waits", 0, 0);
        } else {
            Check.logOne(x, what + ", a round from its beginning", 0);
            Check.due(what + ": its round", x.round(0), steps == 0 ? 1 : 4);
            Check.due(what + ": placed", x.outcome(0, 0), 1);
            Check.due(what + ": its entry", x.entry(0, 0), Check.EJECT_1);
            Check.due(what + ": done", x.where(0, 1), 4);
        }
    }

    private static void restarts() {
        DiskArbiters x = Check.voted();
        x.crash(0);
        Check.due("was down", x.restart(0), true);
        Check.due("phase", x.phase(0), 0);
        Check.due("was up", x.restart(0), false);
        Check.due("vote is kept", x.vote(0, true), Check.EJECT_1);
        Check.steps(x, "a new round", 0, 2, 4, 5, 5, 4, 5, 7, 4, 5, 5, 4, 5, 8);
        Check.due("its round", x.round(0), 4);
        Check.due("placed", x.outcome(0, 0), 1);
        // The document says what holds behind the call, and not that a controller that is up is left alone.
        DiskArbiters y = Check.voted();
        Check.due("was up", y.restart(0), false);
        Check.due("phase 0 all the same", y.phase(0), 0);
        Check.due("vote is kept", y.vote(0, true), Check.EJECT_1);
        Check.steps(y, "a new round", 0, 2);
        Check.due("its round", y.round(0), 4);
    }

    private static void restartAtEachStep() {
        for (int steps = 0; steps <= 13; steps++) {
            DiskArbiters x = after(steps);
            String what = "restart behind " + steps + " steps";
            Check.due(what, x.restart(0), false);
            Check.due(what + ": phase", x.phase(0), 0);
            fileIs(x, what, steps);
            goesOnFromPhase0(x, what, steps);
        }
    }

    /** Controller 0 saw round 9 of controller 2, and started 1 itself. */
    private static DiskArbiters sawRound9() {
        DiskArbiters x = new DiskArbiters();
        Check.startOften(x, 2, 3);
        Check.steps(x, "rival writes", 2, 4);
        x.want(0, 2, 0, 0, 0);
        Check.steps(x, "round 9 is seen", 0, 2, 4, 5, 6);
        return x;
    }

    private static void restartForgetsTheRoundsSeen() {
        DiskArbiters seen = sawRound9();
        Check.steps(seen, "starts", 0, 2);
        Check.due("without a restart", seen.round(0), 10);
        DiskArbiters down = sawRound9();
        down.crash(0);
        Check.due("was down", down.restart(0), true);
        Check.steps(down, "starts", 0, 2);
        Check.due("restart of one that was down", down.round(0), 4);
        DiskArbiters up = sawRound9();
        Check.due("was up", up.restart(0), false);
        Check.steps(up, "starts", 0, 2);
        Check.due("restart of one that was up", up.round(0), 4);
    }

    private static void wordsOfAFailedDisk() {
        DiskArbiters x = Check.voted();
        Check.steps(x, "the vote at disk 0", 0, 4);
        for (int d = 0; d < 3; d++) {
            x.disk(d, false);
        }
        Check.block(x, "failed disk 0", 0, 0, 0, 1, 1, 0, 0, 1, 2, 1, 1, Check.EJECT_1, 2);
        Check.block(x, "failed disk 1", 1, 0, 0, 1, 1, 0, 0, 1);
        Check.block(x, "failed disk 2", 2, 0, 0);
        Check.thrown(x, "word 10", IllegalArgumentException.class, () -> x.word(0, 0, 0, 10));
    }

    private static void accesses() {
        DiskArbiters x = new DiskArbiters();
        x.want(1, 3, 1, 0, 0);
        x.want(1, 2, 1, 0, 0);
        int[] answers = {1, 2, 4, 5, 5, 4, 5, 7, 4, 5, 5, 4, 5, 8, 0};
        int due = 0;
        for (int answer : answers) {
            Check.steps(x, "counted", 1, answer);
            due += answer >= 4 ? 1 : 0;
            Check.due("accesses", x.accesses(1), due);
        }
        x.want(1, 3, 1, 0, 0);
        x.disk(0, false);
        Check.steps(x, "a failed disk does not count", 1, 2, 3);
        Check.due("accesses", x.accesses(1), 12);
        x.tear(1, 0);
        Check.due("a write of no word counts", x.accesses(1), 13);
        x.restart(1);
        Check.due("kept", x.accesses(1), 13);
        Check.due("another's", x.accesses(0), 0);
        DiskArbiters y = new DiskArbiters();
        y.want(0, 2, 1, 0, 0);
        y.want(1, 2, 1, 0, 0);
        Check.steps(y, "rival", 1, 2, 4);
        Check.steps(y, "way is given", 0, 2, 4, 6);
        Check.due("that read counts", y.accesses(0), 2);
    }
}
