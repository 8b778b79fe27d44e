/** Promise 17, and what the terms say of a block: its slots, when one is whole, what it says, how it is written. */
public final class BlockTest {
    private static final int MOST_WRITES = 6;

    public static void main(String[] args) {
        slotsTakeTurns();
        theNewestWholeSlotIsSaid();
        cutWritesKeepTheirFirstWords();
        cutWritesAreNotSaid();
        twoCutsInARow();
        votesAreWrittenAndCut();
        votesAreSaidOfWholeSlots();
        eachDiskCountsForItself();
        aCutAtTheLastDisk();
        blocksLieApart();
        theLastBlock();
        Check.end();
    }

    private static int roundOf(int controller, int start) {
        return 3 * (start - 1) + controller + 1;
    }

    /** A controller that has written that often at disk 0, each time in another round, and is about to write again. */
    private static DiskArbiters written(int controller, int writes) {
        DiskArbiters x = new DiskArbiters();
        x.want(controller, 2, 7, 0, 0);
        for (int i = 0; i < writes; i++) {
            Check.steps(x, "a write", controller, 2, 4);
            comeUpAgain(x, controller);
        }
        Check.steps(x, "about to write", controller, 2);
        return x;
    }

    private static void comeUpAgain(DiskArbiters x, int controller) {
        x.crash(controller);
        x.restart(controller);
    }

    private static int[] blockAfter(int controller, int writes) {
        int[] block = new int[10];
        for (int number = 1; number <= writes; number++) {
            writeOver(block, number, roundOf(controller, number), 5);
        }
        return block;
    }

    /** Odd numbers are in slot 0, even ones in slot 1. */
    private static void writeOver(int[] block, int number, int round, int keep) {
        int[] words = {number, round, 0, 0, number};
        System.arraycopy(words, 0, block, number % 2 == 1 ? 0 : 5, keep);
    }

    private static void slotsTakeTurns() {
        for (int c = 0; c < 3; c++) {
            for (int writes = 0; writes <= MOST_WRITES; writes++) {
                DiskArbiters x = written(c, writes);
                Check.block(x, writes + " writes of " + c, 0, c, 0, blockAfter(c, writes));
            }
        }
    }

    /** The round that is said to a reader with a lesser one shows in its next round, the least one above it. */
    private static void said(DiskArbiters x, String what, int round) {
        x.want(0, 2, 6, 0, 0);
        if (round == 0) {
            Check.steps(x, what + ": nothing is said", 0, 2, 4, 5, 5, 4, 5, 7);
        } else {
            Check.steps(x, what + ": the reader gives way", 0, 2, 4, 5, 6, 2);
            Check.due(what + ": round behind the one that is said", x.round(0), round + 1);
        }
    }

    private static void theNewestWholeSlotIsSaid() {
        for (int writes = 0; writes <= MOST_WRITES; writes++) {
            said(written(2, writes), writes + " writes", writes == 0 ? 0 : roundOf(2, writes));
        }
    }

    private static void cutWritesKeepTheirFirstWords() {
        for (int writes = 0; writes <= MOST_WRITES; writes++) {
            for (int keep = 0; keep <= 5; keep++) {
                String what = "write " + (writes + 1) + " cut behind " + keep;
                DiskArbiters x = written(1, writes);
                Check.due(what, x.tear(1, keep), true);
                int[] block = blockAfter(1, writes);
                writeOver(block, writes + 1, roundOf(1, writes + 1), keep);
                Check.block(x, what, 0, 1, 0, block);
                x.restart(1);
                Check.steps(x, what + ", then a whole one", 1, 2, 4);
                writeOver(block, writes + (keep < 5 ? 1 : 2), roundOf(1, writes + 2), 5);
                Check.block(x, what + ", then a whole one", 0, 1, 0, block);
            }
        }
    }

    /** But one that is cut behind its last word is whole. */
    private static void cutWritesAreNotSaid() {
        for (int writes = 0; writes <= MOST_WRITES; writes++) {
            for (int keep = 0; keep <= 5; keep++) {
                DiskArbiters x = written(2, writes);
                x.tear(2, keep);
                int whole = keep < 5 ? writes : writes + 1;
                said(x, "write " + (writes + 1) + " cut behind " + keep, whole == 0 ? 0 : roundOf(2, whole));
            }
        }
    }

    private static void twoCutsInARow() {
        for (int writes = 0; writes <= 3; writes++) {
            for (int keeps = 0; keeps < 36; keeps++) {
                int first = keeps / 6;
                int second = keeps % 6;
                String what = "behind " + writes + " writes cuts behind " + first + " and " + second;
                DiskArbiters x = written(2, writes);
                int[] block = blockAfter(2, writes);
                x.tear(2, first);
                writeOver(block, writes + 1, roundOf(2, writes + 1), first);
                x.restart(2);
                Check.steps(x, what, 2, 2);
                x.tear(2, second);
                int number = writes + (first < 5 ? 1 : 2);
                writeOver(block, number, roundOf(2, writes + 2), second);
                Check.block(x, what, 0, 2, 0, block);
                int round = second == 5 ? roundOf(2, writes + 2) : first == 5 ? roundOf(2, writes + 1) : roundOf(2, writes);
                said(x, what, Math.max(round, 0));
            }
        }
    }

    private static void votesAreWrittenAndCut() {
        for (int keep = 0; keep <= 5; keep++) {
            DiskArbiters x = Check.voted();
            x.tear(0, keep);
            int[] block = {1, 1, 0, 0, 1, 0, 0, 0, 0, 0};
            System.arraycopy(new int[] {2, 1, 1, Check.EJECT_1, 2}, 0, block, 5, keep);
            Check.block(x, "a vote cut behind " + keep, 0, 0, 0, block);
            x.restart(0);
            Check.steps(x, "again", 0, 2, 4);
            if (keep < 5) {
                Check.block(x, "slot 1 again", 0, 0, 0, 1, 1, 0, 0, 1, 2, 4, 1, Check.EJECT_1, 2);
            } else {
                Check.block(x, "slot 0 again", 0, 0, 0, 3, 4, 1, Check.EJECT_1, 3, 2, 1, 1, Check.EJECT_1, 2);
            }
        }
    }

    private static void votesAreSaidOfWholeSlots() {
        for (int keep = 0; keep <= 5; keep++) {
            DiskArbiters x = Check.voted();
            x.tear(0, keep);
            x.want(1, 2, 7, 0, 0);
            Check.steps(x, "a vote cut behind " + keep, 1, 2, 4, 5, 5, 4, 5, 7);
            Check.due("the rival's vote", x.vote(1, true), keep < 5 ? Check.entry(2, 7, 0, 0, 1, 0) : Check.EJECT_1);
        }
        for (int keep = 0; keep < 5; keep++) {
            DiskArbiters x = Check.voted();
            Check.steps(x, "the vote is written", 0, 4);
            comeUpAgain(x, 0);
            Check.steps(x, "a new round", 0, 2);
            x.tear(0, keep);
            x.want(1, 2, 7, 0, 0);
            Check.steps(x, "the write before the one cut behind " + keep, 1, 2, 4, 5, 5, 4, 5, 7);
            Check.due("the rival's vote", x.vote(1, true), Check.EJECT_1);
        }
    }

    private static void eachDiskCountsForItself() {
        DiskArbiters x = written(0, 2);
        Check.steps(x, "on to disk 1", 0, 4, 5, 5, 4);
        Check.block(x, "third write at disk 0", 0, 0, 0, 3, 7, 0, 0, 3, 2, 4, 0, 0, 2);
        Check.block(x, "first write at disk 1", 1, 0, 0, 1, 7, 0, 0, 1);
        Check.block(x, "no write at disk 2", 2, 0, 0);
    }

    private static void aCutAtTheLastDisk() {
        for (int keep = 0; keep <= 5; keep++) {
            DiskArbiters x = new DiskArbiters();
            x.want(2, 2, 7, 0, 0);
            x.disk(1, false);
            Check.steps(x, "to disk 2", 2, 2, 4, 5, 5, 3);
            Check.due("cut at disk 2", x.tear(2, keep), true);
            int[] block = new int[10];
            writeOver(block, 1, 3, keep);
            Check.block(x, "cut at disk 2", 2, 2, 0, block);
            Check.block(x, "disk 0 as before", 0, 2, 0, 1, 3, 0, 0, 1);
        }
    }

    private static void blocksLieApart() {
        for (int c = 0; c < 3; c++) {
            DiskArbiters x = new DiskArbiters();
            x.want(c, 2, 7, 0, 0);
            x.want(c, 3, 7, 0, 0);
            Check.logOne(x, "place 0", c);
            Check.steps(x, "place 1", c, 2, 4);
            int first = c + 1;
            int entry = Check.entry(2, 7, 0, 0, c, 0);
            for (int d = 0; d < 2; d++) {
                Check.block(x, "place 0, disk " + d, d, c, 0, 1, first, 0, 0, 1, 2, first, first, entry, 2);
            }
            Check.block(x, "place 1, disk 0", 0, c, 1, 1, first + 3, 0, 0, 1);
            Check.block(x, "place 1, disk 1", 1, c, 1);
            Check.block(x, "place 2", 0, c, 2);
            Check.block(x, "disk 2", 2, c, 0);
            for (int other = 0; other < 3; other++) {
                for (int place = 0; place < 24 && other != c; place += place == 1 ? 22 : 1) {
                    Check.block(x, "another's block", 0, other, place);
                    Check.block(x, "another's block", 1, other, place);
                }
            }
        }
    }

    /** With disk 0 failed, the other two take all writes. */
    private static void theLastBlock() {
        for (int c = 0; c < 3; c++) {
            DiskArbiters x = new DiskArbiters();
            x.disk(0, false);
            for (int place = 0; place < 24; place++) {
                x.want(c, 2 + place % 2, 7, 0, 0);
                Check.steps(x, "place " + place, c, 2, 3, 4, 5, 5, 4, 5, 7, 3, 4, 5, 5, 4, 5, 8);
            }
            int round = 3 * 23 + c + 1;
            Check.block(x, "last block of " + c, 2, c, 23, 1, round, 0, 0, 1, 2, round, round, Check.entry(3, 7, 0, 0, c, 23), 2);
            Check.block(x, "last block at the failed disk", 0, c, 23);
            Check.block(x, "first block of the next", 2, (c + 1) % 3, 0);
            Check.block(x, "last block of the next", 2, (c + 1) % 3, 23);
            Check.block(x, "last block of the one before", 2, (c + 2) % 3, 23);
        }
    }
}
