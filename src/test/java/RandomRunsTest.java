import java.util.ArrayList;
import java.util.HashSet;
import java.util.List;
import java.util.Random;
import java.util.Set;

/**
 * Runs of calls by chance (always the same ones), each answer beside the model's; and behind each run what the
 * document's first sentence says: no two controllers have different entries at a place. No run has over 512 calls.
 */
public final class RandomRunsTest {
    private static final int RUNS = 4000;
    private static final int CALLS = 430;

    private final Random random;
    private final DiskArbiters x = new DiskArbiters();
    private final Model model = new Model();
    private final int run;
    private final int controllers;
    private final int faults;
    private final int slips;
    private final int questions;
    private int walker;

    private RandomRunsTest(int run) {
        this.run = run;
        this.random = new Random(run);
        this.controllers = 1 + random.nextInt(3);
        this.faults = random.nextInt(3) * 3;
        this.slips = random.nextInt(3);
        this.questions = random.nextInt(4) * 5;
    }

    public static void main(String[] args) {
        int longest = 0;
        int shared = 0;
        for (int run = 0; run < RUNS; run++) {
            RandomRunsTest test = new RandomRunsTest(run);
            for (int i = 0; i < CALLS; i++) {
                test.callByChance();
            }
            int[] lengths = test.logsAgree();
            longest = Math.max(longest, lengths[0]);
            shared = Math.max(shared, lengths[1]);
        }
        // Else the runs would not tell much.
        Check.due("a run has a long log", longest >= 20, true);
        Check.due("a run has two long logs", shared >= 8, true);
        Check.end();
    }

    private void callByChance() {
        int chance = random.nextInt(100);
        if (chance < faults) {
            fault();
        } else if (chance < faults + slips) {
            slip();
        } else if (chance < faults + slips + 10) {
            wish();
        } else if (chance < faults + slips + 10 + questions) {
            question(random.nextInt(3), random.nextInt(3), random.nextInt(8), random.nextInt(24), random.nextInt(10));
        } else {
            if (random.nextInt(20) == 0) {
                walker = random.nextInt(controllers);
            }
            int c = walker;
            due("step(" + c + ")", () -> x.step(c), model.step(c));
        }
    }

    private void due(String call, Check.Call of, String want) {
        Check.due("run " + run + ": " + call, "" + Check.answerOf(of), want);
    }

    private void wish() {
        int c = random.nextInt(controllers);
        want(c, random.nextInt(8), random.nextInt(8) % (1 + random.nextInt(8)), random.nextInt(3), random.nextInt(3));
    }

    private void want(int c, int kind, int cartridge, int drive, int client) {
        String call = "want(" + c + ", " + kind + ", " + cartridge + ", " + drive + ", " + client + ")";
        due(call, () -> x.want(c, kind, cartridge, drive, client), model.want(c, kind, cartridge, drive, client));
    }

    private void fault() {
        int n = random.nextInt(3);
        int keep = random.nextInt(6);
        boolean works = random.nextInt(3) > 0;
        switch (random.nextInt(5)) {
            case 0 -> due("crash(" + n + ")", () -> x.crash(n), model.crash(n));
            case 1 -> due("tear(" + n + ", " + keep + ")", () -> x.tear(n, keep), model.tear(n, keep));
            case 2 -> due("disk(" + n + ", " + works + ")", () -> x.disk(n, works), model.disk(n, works));
            default -> due("restart(" + n + ")", () -> x.restart(n), model.restart(n));
        }
    }

    /** A call with numbers that may be wrong, each at an edge or far away. */
    private void slip() {
        int[] numbers = {-1, 0, 1, 2, 3, 5, 6, 7, 8, 9, 10, 23, 24, 60, Integer.MIN_VALUE, Integer.MAX_VALUE};
        int[] n = new int[5];
        for (int i = 0; i < n.length; i++) {
            n[i] = random.nextBoolean() ? random.nextInt(3) : numbers[random.nextInt(numbers.length)];
        }
        switch (random.nextInt(8)) {
            case 0 -> want(n[0], n[1], n[2], n[3], n[4]);
            case 1 -> due("step(" + n[0] + ")", () -> x.step(n[0]), model.step(n[0]));
            case 2 -> due("tear(" + n[0] + ", " + n[1] + ")", () -> x.tear(n[0], n[1]), model.tear(n[0], n[1]));
            default -> question(n[0], n[1], n[2], n[3], n[4]);
        }
    }

    private void question(int c, int d, int cartridge, int place, int i) {
        switch (random.nextInt(12)) {
            case 0 -> due("log(" + c + ")", () -> x.log(c), model.log(c));
            case 1 -> due("entry(" + c + ", " + place + ")", () -> x.entry(c, place), model.entry(c, place));
            case 2 -> due("outcome(" + c + ", " + place + ")", () -> x.outcome(c, place), model.outcome(c, place));
            case 3 -> due("holds(" + c + ", " + d + ")", () -> x.holds(c, d), model.holds(c, d));
            case 4 -> due("where(" + c + ", " + cartridge + ")", () -> x.where(c, cartridge), model.where(c, cartridge));
            case 5 -> due("reserved(" + c + ", " + d + ")", () -> x.reserved(c, d), model.reserved(c, d));
            case 6 -> due("phase(" + c + ")", () -> x.phase(c), model.phase(c));
            case 7 -> due("round(" + c + ")", () -> x.round(c), model.round(c));
            case 8 -> due("vote(" + c + ", true)", () -> x.vote(c, true), model.vote(c, true));
            case 9 -> due("vote(" + c + ", false)", () -> x.vote(c, false), model.vote(c, false));
            case 10 -> due("accesses(" + c + ")", () -> x.accesses(c), model.accesses(c));
            default -> {
                int near = place > 3 ? place / 4 : place;
                due("word(" + d + ", " + c + ", " + near + ", " + i + ")",
                        () -> x.word(d, c, near, i), model.word(d, c, near, i));
            }
        }
    }

    /** The longest log's length, and the second one's. */
    private int[] logsAgree() {
        List<Integer> longest = new ArrayList<>();
        int second = 0;
        for (int c = 0; c < 3; c++) {
            List<Integer> log = new ArrayList<>();
            int length = x.log(c);
            for (int place = 0; place < length; place++) {
                log.add(x.entry(c, place));
            }
            Check.due("run " + run + ": entries twice in the log of " + c, log.size() - distinct(log), 0);
            Model.replay(log);
            List<Integer> shorter = log.size() < longest.size() ? log : longest;
            longest = log.size() < longest.size() ? longest : log;
            second = Math.max(second, shorter.size());
            Check.due("run " + run + ": log of " + c, shorter, longest.subList(0, shorter.size()));
        }
        return new int[] {longest.size(), second};
    }

    private static int distinct(List<Integer> log) {
        Set<Integer> entries = new HashSet<>(log);
        return entries.size();
    }
}
