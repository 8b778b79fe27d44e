import java.util.ArrayList;
import java.util.HashMap;
import java.util.List;
import java.util.Map;
import java.util.TreeMap;

/**
 * The document once more, in another form than the class has it: nothing is kept of the library's state but the
 * log, which is replayed for each question, and blocks are lists of all their slots' words by name.
 * Answers are texts; an exception is "throws." and its name.
 */
final class Model {
    private final Map<String, int[]> blocks = new HashMap<>();
    private final boolean[] failed = new boolean[3];
    private final Who[] all = {new Who(0), new Who(1), new Who(2)};

    private static final class Who {
        final int me;
        final List<Integer> log = new ArrayList<>();
        final List<Integer> wishes = new ArrayList<>();
        final TreeMap<Integer, Integer> ended = new TreeMap<>();
        int started;
        int[] vote = {0, 0};
        boolean down;
        int phase;
        int seen;
        int[] best = {0, 0};
        List<String> todo = new ArrayList<>();
        int done;
        int accesses;

        Who(int me) {
            this.me = me;
        }

        int firstWaiting() {
            for (int w = 0; w < wishes.size(); w++) {
                if (!ended.containsKey(w)) {
                    return w;
                }
            }
            return -1;
        }

        /** What is still to be done in this phase up to the last disk, as "disk w" and "disk r other". */
        void plan() {
            todo = new ArrayList<>();
            done = 0;
            for (int d = 0; d < 3; d++) {
                todo.add(d + " w");
                for (int other = 0; other < 3; other++) {
                    if (other != me) {
                        todo.add(d + " r " + other);
                    }
                }
            }
        }
    }

    /** Where the cartridges are (0 .. 7), who reserved the drives (8 .. 10), which are off (11 .. 13). */
    static int[] replay(List<Integer> log) {
        int[] s = {3, 3, 3, 3, 3, 3, 3, 3, -1, -1, -1, 0, 0, 0};
        for (int e : log) {
            if (!allowed(s, e)) {
                throw new IllegalStateException("not allowed: " + e);
            }
            int cartridge = e / 8 % 8;
            int drive = e / 64 % 4;
            switch (e % 8) {
                case 0 -> s[cartridge] = drive;
                case 1 -> s[held(s, drive)] = 3;
                case 2 -> s[cartridge] = 4;
                case 3 -> s[cartridge] = 3;
                case 4 -> s[11 + drive] = 1;
                case 5 -> s[11 + drive] = 0;
                case 6 -> s[8 + drive] = e / 256 % 4;
                default -> s[8 + drive] = -1;
            }
        }
        return s;
    }

    private static int held(int[] s, int drive) {
        for (int cartridge = 0; cartridge < 8; cartridge++) {
            if (s[cartridge] == drive) {
                return cartridge;
            }
        }
        return -1;
    }

    private static boolean allowed(int[] s, int e) {
        int drive = e / 64 % 4;
        int at = s[e / 8 % 8];
        int client = e / 256 % 4;
        boolean free = s[8 + drive] == -1;
        boolean mine = s[8 + drive] == client;
        boolean on = s[11 + drive] == 0;
        boolean none = held(s, drive) == -1;
        return switch (e % 8) {
            case 0 -> at == 3 && none && on && (free || mine);
            case 1 -> !none && (free || mine);
            case 2 -> at == 3;
            case 3 -> at == 4;
            case 4 -> on && none;
            case 5 -> !on;
            case 6 -> free;
            default -> mine;
        };
    }

    private int[] block(int d, int controller, int place) {
        return blocks.computeIfAbsent(d + "/" + controller + "/" + place, key -> new int[10]);
    }

    private static int whole(int[] block) {
        int slot = -1;
        int greatest = 0;
        for (int s = 0; s < 2; s++) {
            if (block[5 * s] == block[5 * s + 4] && block[5 * s] > greatest) {
                greatest = block[5 * s];
                slot = s;
            }
        }
        return slot;
    }

    private void write(Who who, int d, int keep) {
        int[] block = block(d, who.me, who.log.size());
        int whole = whole(block);
        int number = whole < 0 ? 1 : block[5 * whole] + 1;
        int slot = whole < 0 ? 0 : 1 - whole;
        int[] words = {number, who.started, who.vote[0], who.vote[1], number};
        for (int i = 0; i < keep; i++) {
            block[5 * slot + i] = words[i];
        }
        who.accesses++;
    }

    private static boolean no(int number, int bound) {
        return number < 0 || number >= bound;
    }

    private static String thrown(String what) {
        return "throws." + what;
    }

    private static final String INDEX = thrown("IndexOutOfBoundsException");
    private static final String ARGUMENT = thrown("IllegalArgumentException");
    private static final String STATE = thrown("IllegalStateException");
    private static final String ELEMENT = thrown("NoSuchElementException");
    private static final String UNSUPPORTED = thrown("UnsupportedOperationException");

    String want(int c, int kind, int cartridge, int drive, int client) {
        if (no(c, 3)) {
            return INDEX;
        }
        if (no(kind, 8) || no(cartridge, 8) || no(drive, 3) || no(client, 3)) {
            return ARGUMENT;
        }
        List<Integer> wishes = all[c].wishes;
        if (wishes.size() - all[c].ended.size() == 5 || wishes.size() == 60) {
            return UNSUPPORTED;
        }
        wishes.add(Check.entry(kind, cartridge, drive, client, c, wishes.size()));
        return "" + (wishes.size() - 1);
    }

    String step(int c) {
        if (no(c, 3)) {
            return INDEX;
        }
        Who who = all[c];
        if (who.down) {
            return STATE;
        }
        if (who.log.size() == 24) {
            return ELEMENT;
        }
        return "" + (who.phase == 0 ? idle(who) : busy(who));
    }

    private int idle(Who who) {
        int wish = who.firstWaiting();
        if (wish < 0) {
            return 0;
        }
        if (!allowed(replay(who.log), who.wishes.get(wish))) {
            who.ended.put(wish, -1);
            return 1;
        }
        int round = 1;
        while (round <= who.started || round <= who.seen || (round - who.me - 1) % 3 != 0) {
            round++;
        }
        who.started = round;
        who.phase = 1;
        who.best = who.vote;
        who.plan();
        return 2;
    }

    private int busy(Who who) {
        String[] next = who.todo.get(0).split(" ");
        int d = Integer.parseInt(next[0]);
        if (failed[d]) {
            who.todo.removeIf(part -> part.startsWith(d + " "));
            if (who.todo.isEmpty()) {
                who.plan();
            }
            return 3;
        }
        who.todo.remove(0);
        if (next[1].equals("w")) {
            write(who, d, 5);
            return 4;
        }
        int[] block = block(d, Integer.parseInt(next[2]), who.log.size());
        int slot = whole(block);
        int round = slot < 0 ? 0 : block[5 * slot + 1];
        who.accesses++;
        who.seen = Math.max(who.seen, round);
        if (slot >= 0 && block[5 * slot + 2] > who.best[0]) {
            who.best = new int[] {block[5 * slot + 2], block[5 * slot + 3]};
        }
        if (round > who.started) {
            who.phase = 0;
            return 6;
        }
        if (who.todo.isEmpty() || !who.todo.get(0).startsWith(d + " ")) {
            who.done++;
        }
        if (who.done < 2) {
            if (who.todo.isEmpty()) {
                who.plan();
            }
            return 5;
        }
        return who.phase == 1 ? voted(who) : logged(who);
    }

    private static int voted(Who who) {
        int entry = who.best[0] > 0 ? who.best[1] : who.wishes.get(who.firstWaiting());
        who.vote = new int[] {who.started, entry};
        who.phase = 2;
        who.plan();
        return 7;
    }

    private static int logged(Who who) {
        int entry = who.vote[1];
        who.log.add(entry);
        if (who.wishes.contains(entry)) {
            who.ended.put(who.wishes.indexOf(entry), who.log.size());
        }
        who.vote = new int[] {0, 0};
        who.phase = 0;
        return 8;
    }

    String disk(int d, boolean works) {
        if (no(d, 3)) {
            return INDEX;
        }
        boolean changed = failed[d] == works;
        failed[d] = !works;
        return "" + changed;
    }

    String tear(int c, int keep) {
        if (no(c, 3)) {
            return INDEX;
        }
        if (no(keep, 6)) {
            return ARGUMENT;
        }
        Who who = all[c];
        if (who.down) {
            return STATE;
        }
        if (who.phase == 0 || !who.todo.get(0).endsWith("w")) {
            return "false";
        }
        int d = who.todo.get(0).charAt(0) - '0';
        if (failed[d]) {
            return "false";
        }
        write(who, d, keep);
        who.down = true;
        return "true";
    }

    String crash(int c) {
        if (no(c, 3)) {
            return INDEX;
        }
        boolean changed = !all[c].down;
        all[c].down = true;
        return "" + changed;
    }

    String restart(int c) {
        if (no(c, 3)) {
            return INDEX;
        }
        boolean changed = all[c].down;
        all[c].down = false;
        all[c].phase = 0;
        all[c].seen = 0;
        return "" + changed;
    }

    String log(int c) {
        return no(c, 3) ? INDEX : "" + all[c].log.size();
    }

    String entry(int c, int place) {
        if (no(c, 3) || no(place, 24)) {
            return INDEX;
        }
        return place >= all[c].log.size() ? ELEMENT : "" + all[c].log.get(place);
    }

    String outcome(int c, int wish) {
        if (no(c, 3)) {
            return INDEX;
        }
        return no(wish, all[c].wishes.size()) ? ELEMENT : "" + all[c].ended.getOrDefault(wish, 0);
    }

    String holds(int c, int drive) {
        return no(c, 3) || no(drive, 3) ? INDEX : "" + held(replay(all[c].log), drive);
    }

    String where(int c, int cartridge) {
        return no(c, 3) || no(cartridge, 8) ? INDEX : "" + replay(all[c].log)[cartridge];
    }

    String reserved(int c, int drive) {
        if (no(c, 3) || no(drive, 3)) {
            return INDEX;
        }
        int[] s = replay(all[c].log);
        return "" + (s[8 + drive] + 10 * s[11 + drive]);
    }

    String phase(int c) {
        return no(c, 3) ? INDEX : "" + (all[c].down ? -1 : all[c].phase);
    }

    String round(int c) {
        return no(c, 3) ? INDEX : "" + all[c].started;
    }

    String vote(int c, boolean entry) {
        return no(c, 3) ? INDEX : "" + all[c].vote[entry ? 1 : 0];
    }

    String word(int d, int c, int place, int i) {
        if (no(d, 3) || no(c, 3) || no(place, 24)) {
            return INDEX;
        }
        return no(i, 10) ? ARGUMENT : "" + block(d, c, place)[i];
    }

    String accesses(int c) {
        return no(c, 3) ? INDEX : "" + all[c].accesses;
    }
}
