import java.util.NoSuchElementException;

/** Promises 3, 14, 15 and 16: step, and the phase, round and vote that it moves. */
public final class StepTest {
    public static void main(String[] args) {
        firstSteps();
        ownRounds();
        readsTheLesserFirst();
        givesWayAndSees();
        forgetsWhatItSaw();
        givesWayRatherThanVotes();
        givesWayRatherThanLogs();
        takesUpEntryZero();
        takesTheLaterVote();
        keepsTheLaterVote();
        startsFromItsOwnVote();
        keepsTheBestVoteRoundTheDisks();
        keepsTheBestVoteOfADiskThatFailsHalfway();
        aNewRoundForgetsTheVotesItRead();
        leavesAFailedDiskHalfway();
        startsAnewBehindTheLastDisk();
        oneDiskIsNotEnough();
        looksAtItsPlaceAlone();
        aFullLog();
        Check.end();
    }

    private static void state(DiskArbiters x, String what, int c, int phase, int round, int voteRound, int voteEntry) {
        Check.due(what + ": phase", x.phase(c), phase);
        Check.due(what + ": round", x.round(c), round);
        Check.due(what + ": round of vote", x.vote(c, false), voteRound);
        Check.due(what + ": entry of vote", x.vote(c, true), voteEntry);
    }

    private static void firstSteps() {
        DiskArbiters x = new DiskArbiters();
        String before = Check.picture(x);
        Check.steps(x, "no wish", 1, 0, 0);
        Check.due("nothing is changed", Check.picture(x), before);
        x.want(1, 1, 0, 0, 0);
        x.want(1, 0, 3, 2, 1);
        Check.steps(x, "not allowed", 1, 1);
        state(x, "refused", 1, 0, 0, 0, 0);
        Check.steps(x, "allowed", 1, 2);
        state(x, "started", 1, 1, 2, 0, 0);
        Check.steps(x, "phase 1", 1, 4, 5, 5, 4, 5);
        state(x, "before the vote", 1, 1, 2, 0, 0);
        int entry = Check.entry(0, 3, 2, 1, 1, 1);
        Check.steps(x, "vote", 1, 7);
        state(x, "voted", 1, 2, 2, 2, entry);
        Check.steps(x, "phase 2", 1, 4, 5, 5, 4, 5);
        state(x, "before the end", 1, 2, 2, 2, entry);
        Check.due("nothing logged yet", x.log(1), 0);
        Check.steps(x, "the end", 1, 8);
        state(x, "logged", 1, 0, 2, 0, 0);
        Check.due("logged", x.log(1), 1);
        Check.steps(x, "no wish again", 1, 0);
    }

    private static void ownRounds() {
        for (int c = 0; c < 3; c++) {
            DiskArbiters x = new DiskArbiters();
            for (int i = 0; i < 4; i++) {
                x.want(c, i % 2 == 0 ? 2 : 3, 0, 0, 0);
                Check.logOne(x, "round of " + c, c);
                Check.due("round " + i + " of " + c, x.round(c), 3 * i + c + 1);
            }
        }
    }

    private static void readsTheLesserFirst() {
        for (int reader = 0; reader < 3; reader++) {
            for (int rival = 0; rival < 3; rival++) {
                if (rival != reader) {
                    boolean first = rival == (reader == 0 ? 1 : 0);
                    DiskArbiters x = new DiskArbiters();
                    Check.startOften(x, rival, 2);
                    Check.steps(x, "rival writes", rival, 4);
                    x.want(reader, 2, 0, 0, 0);
                    Check.steps(x, "reader " + reader + " of " + rival, reader, first ? new int[] {2, 4, 6} : new int[] {2, 4, 5, 6});
                }
            }
        }
    }

    private static void givesWayAndSees() {
        int[][] next = {{1, 7, 5}, {2, 7, 6}, {0, 8, 7}, {2, 8, 6}, {0, 9, 7}, {1, 9, 8}};
        int[] readers = {0, 0, 1, 1, 2, 2};
        for (int i = 0; i < next.length; i++) {
            DiskArbiters x = new DiskArbiters();
            int rival = next[i][0];
            int reader = readers[i];
            Check.startOften(x, rival, rival < reader ? 3 : 2);
            Check.steps(x, "rival writes", rival, 4);
            Check.due("rival's round", x.round(rival), next[i][2]);
            x.want(reader, 2, 7, 0, 0);
            Check.steps(x, "reader starts", reader, 2, 4);
            Check.due("first round", x.round(reader), reader + 1);
            int answer = x.step(reader);
            Check.due("way is given", answer == 5 ? x.step(reader) : answer, 6);
            state(x, "after way was given", reader, 0, reader + 1, 0, 0);
            Check.steps(x, "starts again", reader, 2);
            state(x, "started behind what it saw", reader, 1, next[i][1], 0, 0);
            Check.steps(x, "now it is ahead", reader, 4, 5, 5);
            Check.due("the rival gives way", x.step(rival) == 6 || x.step(rival) == 6, true);
        }
    }

    private static void forgetsWhatItSaw() {
        DiskArbiters x = new DiskArbiters();
        Check.startOften(x, 2, 3);
        Check.steps(x, "rival writes", 2, 4);
        x.want(0, 2, 0, 0, 0);
        Check.steps(x, "way is given", 0, 2, 4, 5, 6);
        x.crash(0);
        x.restart(0);
        Check.steps(x, "starts", 0, 2);
        Check.due("round behind its own one alone", x.round(0), 4);
        Check.steps(x, "way is given again", 0, 4, 5, 6, 2);
        Check.due("round behind what was seen again", x.round(0), 10);
    }

    private static void givesWayRatherThanVotes() {
        DiskArbiters x = new DiskArbiters();
        x.want(0, 2, 0, 0, 0);
        x.want(2, 2, 2, 0, 0);
        Check.steps(x, "one disk and a half", 0, 2, 4, 5, 5, 4, 5);
        Check.steps(x, "a rival at disk 1", 2, 2, 4, 5, 5, 4);
        Check.steps(x, "the last read", 0, 6);
        state(x, "no vote", 0, 0, 1, 0, 0);
    }

    private static void givesWayRatherThanLogs() {
        DiskArbiters x = new DiskArbiters();
        x.want(0, 2, 3, 0, 0);
        x.want(2, 2, 2, 0, 0);
        Check.steps(x, "phase 1 and a half", 0, 2, 4, 5, 5, 4, 5, 7, 4, 5, 5, 4, 5);
        Check.steps(x, "a rival at disk 1", 2, 2, 4, 5, 5, 4);
        Check.steps(x, "the last read", 0, 6);
        state(x, "the vote stays", 0, 0, 1, 1, Check.entry(2, 3, 0, 0, 0, 0));
        Check.due("nothing logged", x.log(0), 0);
        Check.due("the wish waits", x.outcome(0, 0), 0);
        Check.steps(x, "the rival takes the vote up", 2, 5, 7);
        state(x, "taken up", 2, 2, 3, 3, Check.entry(2, 3, 0, 0, 0, 0));
        Check.steps(x, "and logs it", 2, 4, 5, 5, 4, 5, 8);
        Check.due("the rival's own wish waits", x.outcome(2, 0), 0);
        Check.steps(x, "a round more", 0, 2, 4, 5, 5, 4, 5, 7, 4, 5, 5, 4, 5, 8);
        Check.due("its own round then", x.round(0), 4);
        Check.due("placed by a later round", x.outcome(0, 0), 1);
        Check.logOne(x, "the rival's own at the next place", 2);
        Check.due("placed", x.outcome(2, 0), 2);
    }

    private static void takesUpEntryZero() {
        DiskArbiters x = new DiskArbiters();
        x.want(0, 0, 0, 0, 0);
        x.want(1, 0, 1, 1, 0);
        Check.steps(x, "a vote for entry 0", 0, 2, 4, 5, 5, 4, 5, 7, 4);
        state(x, "entry 0", 0, 2, 1, 1, 0);
        x.crash(0);
        state(x, "the vote is in the file", 0, -1, 1, 1, 0);
        Check.steps(x, "taken up", 1, 2, 4, 5, 5, 4, 5, 7);
        state(x, "entry 0 taken up", 1, 2, 2, 2, 0);
        Check.steps(x, "logged", 1, 4, 5, 5, 4, 5, 8);
        Check.due("log", x.log(1), 1);
        Check.due("entry 0", x.entry(1, 0), 0);
        Check.due("drive 0", x.holds(1, 0), 0);
        Check.due("its own wish waits", x.outcome(1, 0), 0);
        Check.due("another's wish is not placed by it", x.outcome(0, 0), 0);
        Check.logOne(x, "its own one next", 1);
        Check.due("placed", x.outcome(1, 0), 2);
        Check.due("drive 1", x.holds(1, 1), 1);
        x.restart(0);
        state(x, "up again", 0, 0, 1, 1, 0);
        Check.logOne(x, "controller 0 learns it in round 4", 0);
        Check.due("placed at last", x.outcome(0, 0), 1);
    }

    /** Controller 0's vote is on disk 0 alone, controller 1's later one, which did not see it, on disk 1 alone. */
    private static void takesTheLaterVote() {
        DiskArbiters x = new DiskArbiters();
        for (int c = 0; c < 3; c++) {
            x.want(c, 2, c, 0, 0);
        }
        Check.steps(x, "vote of 0 at disk 0", 0, 2, 4, 5, 5, 4, 5, 7, 4);
        x.disk(0, false);
        Check.steps(x, "vote of 1 at disk 1", 1, 2, 3, 4, 5, 5, 4, 5, 7, 3, 4);
        state(x, "its own wish", 1, 2, 2, 2, Check.entry(2, 1, 0, 0, 1, 0));
        x.disk(0, true);
        Check.steps(x, "controller 2 sees both", 2, 2, 4, 5, 5, 4, 5, 7);
        state(x, "the later vote", 2, 2, 3, 3, Check.entry(2, 1, 0, 0, 1, 0));
    }

    /** As before, but the earlier vote is read behind the later one. */
    private static void keepsTheLaterVote() {
        DiskArbiters x = new DiskArbiters();
        for (int c = 0; c < 3; c++) {
            x.want(c, 2, c, 0, 0);
        }
        Check.steps(x, "controller 0 votes", 0, 2, 4, 5, 5, 4, 5, 7);
        x.disk(0, false);
        Check.steps(x, "vote of 0 at disk 1", 0, 3, 4);
        x.disk(0, true);
        x.disk(1, false);
        Check.steps(x, "vote of 1 at disk 0", 1, 2, 4, 5, 5, 3, 4, 5, 7, 4);
        x.disk(1, true);
        Check.steps(x, "controller 2 sees both", 2, 2, 4, 5, 5, 4, 5, 7);
        state(x, "the later vote", 2, 2, 3, 3, Check.entry(2, 1, 0, 0, 1, 0));
    }

    private static void startsFromItsOwnVote() {
        DiskArbiters x = new DiskArbiters();
        x.want(0, 2, 5, 0, 0);
        x.want(1, 2, 6, 0, 0);
        int entry = Check.entry(2, 5, 0, 0, 0, 0);
        Check.steps(x, "vote of 0 at disk 0", 0, 2, 4, 5, 5, 4, 5, 7, 4);
        Check.steps(x, "taken up", 1, 2, 4, 5, 5, 4, 5, 7);
        state(x, "taken up", 1, 2, 2, 2, entry);
        x.crash(1);
        x.disk(0, false);
        x.restart(1);
        Check.steps(x, "at the disks without the vote", 1, 2, 3, 4);
        Check.block(x, "block with the old vote", 1, 1, 0, 1, 2, 0, 0, 1, 2, 5, 2, entry, 2);
        Check.steps(x, "to the next vote", 1, 5, 5, 4, 5, 7);
        state(x, "its own old vote", 1, 2, 5, 5, entry);
    }

    private static DiskArbiters oneVoteAtDisk0() {
        DiskArbiters x = new DiskArbiters();
        x.want(0, 2, 5, 0, 0);
        x.want(1, 2, 6, 0, 0);
        x.want(2, 2, 7, 0, 0);
        Check.steps(x, "vote of 0 at disk 0", 0, 2, 4, 5, 5, 4, 5, 7, 4);
        return x;
    }

    private static void keepsTheBestVoteRoundTheDisks() {
        DiskArbiters x = oneVoteAtDisk0();
        x.disk(1, false);
        x.disk(2, false);
        Check.steps(x, "seen at disk 0", 1, 2, 4, 5, 5, 3, 3);
        x.disk(0, false);
        x.disk(1, true);
        x.disk(2, true);
        Check.steps(x, "then the other disks", 1, 3, 4, 5, 5, 4, 5, 7);
        state(x, "still the best", 1, 2, 2, 2, Check.entry(2, 5, 0, 0, 0, 0));
    }

    private static void keepsTheBestVoteOfADiskThatFailsHalfway() {
        DiskArbiters x = oneVoteAtDisk0();
        Check.steps(x, "seen at disk 0", 1, 2, 4, 5);
        x.disk(0, false);
        Check.steps(x, "then the other disks", 1, 3, 4, 5, 5, 4, 5, 7);
        state(x, "still the best", 1, 2, 2, 2, Check.entry(2, 5, 0, 0, 0, 0));
    }

    /** The best vote is its own one where a round starts, whatever ended the round before. */
    private static void aNewRoundForgetsTheVotesItRead() {
        for (String ends : new String[] {"crash", "restart", "gives way"}) {
            DiskArbiters x = oneVoteAtDisk0();
            Check.steps(x, "the vote is read", 1, 2, 4, 5);
            switch (ends) {
                case "crash" -> {
                    x.crash(1);
                    x.restart(1);
                }
                case "restart" -> x.restart(1);
                default -> {
                    Check.steps(x, "a greater round", 2, 2, 4);
                    Check.steps(x, ends, 1, 6);
                }
            }
            x.disk(0, false);
            Check.steps(x, ends + ", then at the disks without the vote", 1, 2, 3, 4, 5, 5, 4, 5, 7);
            state(x, ends + ": its own wish", 1, 2, 5, 5, Check.entry(2, 6, 0, 0, 1, 0));
        }
    }

    private static void leavesAFailedDiskHalfway() {
        DiskArbiters x = new DiskArbiters();
        x.want(0, 2, 5, 0, 0);
        Check.steps(x, "half of disk 0", 0, 2, 4, 5);
        x.disk(0, false);
        Check.steps(x, "on to disk 1", 0, 3);
        x.disk(0, true);
        Check.steps(x, "disk 1 is written", 0, 4, 5, 5);
        x.disk(2, false);
        Check.steps(x, "over disk 2 to disk 0, written again", 0, 3, 4);
        Check.block(x, "second write at disk 0", 0, 0, 0, 1, 1, 0, 0, 1, 2, 1, 0, 0, 2);
        Check.steps(x, "disk 0 is the first one done", 0, 5, 5, 4, 5, 7);
        x.disk(0, false);
        x.disk(2, true);
        Check.steps(x, "phase 2 at disks 1 and 2", 0, 3, 4, 5, 5, 4, 5, 8);
        DiskArbiters y = new DiskArbiters();
        y.want(0, 2, 5, 0, 0);
        Check.steps(y, "written", 0, 2, 4);
        y.disk(0, false);
        y.disk(0, true);
        Check.steps(y, "a disk that is back in time", 0, 5, 5, 4, 5, 7);
    }

    private static void startsAnewBehindTheLastDisk() {
        DiskArbiters x = new DiskArbiters();
        x.want(2, 2, 5, 0, 0);
        x.disk(0, false);
        x.disk(1, false);
        Check.steps(x, "disk 2 alone is done", 2, 2, 3, 3, 4, 5, 5);
        x.disk(0, true);
        x.disk(1, true);
        Check.steps(x, "that does not count any more", 2, 4, 5, 5, 4, 5, 7);
        Check.due("accesses", x.accesses(2), 9);
    }

    private static void oneDiskIsNotEnough() {
        DiskArbiters x = new DiskArbiters();
        x.want(0, 2, 5, 0, 0);
        x.disk(0, false);
        x.disk(2, false);
        Check.steps(x, "start", 0, 2);
        for (int i = 0; i < 20; i++) {
            Check.steps(x, "disk 1 alone", 0, 3, 4, 5, 5, 3);
        }
        state(x, "no vote", 0, 1, 1, 0, 0);
        x.disk(1, false);
        Check.steps(x, "no disk", 0, 3, 3, 3, 3, 3, 3, 3);
        x.disk(1, true);
        Check.steps(x, "at disk 1 again", 0, 4);
    }

    private static void looksAtItsPlaceAlone() {
        DiskArbiters x = new DiskArbiters();
        x.want(0, 2, 5, 0, 0);
        x.want(0, 2, 6, 0, 0);
        Check.logOne(x, "place 0", 0);
        Check.steps(x, "a vote at place 1", 0, 2, 4, 5, 5, 4, 5, 7, 4, 5, 5, 4);
        x.want(1, 2, 7, 0, 0);
        Check.logOne(x, "round 2 is not outrun at place 0", 1);
        Check.due("place 0", x.entry(1, 0), Check.entry(2, 5, 0, 0, 0, 0));
        Check.logOne(x, "the vote at place 1 is taken up", 1);
        Check.due("place 1", x.entry(1, 1), Check.entry(2, 6, 0, 0, 0, 1));
        Check.due("round", x.round(1), 5);
        Check.logOne(x, "place 2", 1);
        Check.due("place 2", x.entry(1, 2), Check.entry(2, 7, 0, 0, 1, 0));
    }

    private static void aFullLog() {
        DiskArbiters x = new DiskArbiters();
        for (int i = 0; i < 24; i++) {
            x.want(1, i % 2 == 0 ? 2 : 3, 0, 0, 0);
            Check.logOne(x, "place " + i, 1);
        }
        Check.due("log", x.log(1), 24);
        Check.due("last entry", x.entry(1, 23), Check.entry(3, 0, 0, 0, 1, 23));
        Check.due("last outcome", x.outcome(1, 23), 24);
        Check.due("last round", x.round(1), 71);
        Check.block(x, "last block", 1, 1, 23, 1, 71, 0, 0, 1, 2, 71, 71, Check.entry(3, 0, 0, 0, 1, 23), 2);
        Check.thrown(x, "no place left", NoSuchElementException.class, () -> x.step(1));
        Check.due("a wish is still taken", x.want(1, 2, 0, 0, 0), 24);
        Check.thrown(x, "no place left for it", NoSuchElementException.class, () -> x.step(1));
        Check.due("nothing to tear", x.tear(1, 3), false);
        Check.due("phase", x.phase(1), 0);
        Check.steps(x, "another has places", 0, 0);
        x.crash(1);
        Check.thrown(x, "down and no place left", IllegalStateException.class, () -> x.step(1));
        x.restart(1);
        Check.thrown(x, "up again", NoSuchElementException.class, () -> x.step(1));
    }
}
