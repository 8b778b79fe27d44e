import java.util.NoSuchElementException;

/**
 * Of each promise the exceptions that it names, and their order, with numbers at the edges and far away; and the
 * terms' last paragraph: a call that throws changes nothing. All of it in many states of the last controller.
 */
public final class ArgumentsTest {
    private static final Class<? extends RuntimeException> INDEX = IndexOutOfBoundsException.class;
    private static final Class<? extends RuntimeException> ARGUMENT = IllegalArgumentException.class;
    private static final Class<? extends RuntimeException> STATE = IllegalStateException.class;
    private static final Class<? extends RuntimeException> ELEMENT = NoSuchElementException.class;
    private static final Class<? extends RuntimeException> UNSUPPORTED = UnsupportedOperationException.class;

    /** The controller that is in the state; the others are new. */
    private static final int C = 2;

    private enum State { NEW, WAITING, ASKING, VOTING, DOWN, FIVE_WAIT, FIVE_WAIT_DOWN, SIXTY_HAD, FULL, FULL_DOWN, FULL_FIVE }

    private interface Ask {
        Object of(DiskArbiters x);
    }

    private final State state;

    private ArgumentsTest(State state) {
        this.state = state;
    }

    public static void main(String[] args) {
        for (State state : State.values()) {
            ArgumentsTest test = new ArgumentsTest(state);
            test.noSuchController();
            test.noSuchDisk();
            test.noSuchPlace();
            test.noSuchCartridgeOrDrive();
            test.wishOfWhatIsNotThere();
            test.wishTooMany();
            test.stepThatCannotBe();
            test.tearThatCannotBe();
            test.noSuchEntry();
            test.noSuchWish();
            test.noSuchWord();
            test.firstAndLastAreThere();
        }
        Check.end();
    }

    private static DiskArbiters inState(State state) {
        DiskArbiters x = new DiskArbiters();
        switch (state) {
            case WAITING -> x.want(C, 2, 7, 0, 0);
            case ASKING -> half(x, 2, 4, 5);
            case VOTING -> half(x, 2, 4, 5, 5, 4, 5, 7);
            case DOWN -> half(x, 2, 4, 5, 5, 4, 5, 7, 4, 5);
            case FIVE_WAIT, FIVE_WAIT_DOWN -> five(x);
            case SIXTY_HAD -> sixty(x);
            case FULL, FULL_DOWN -> full(x);
            case FULL_FIVE -> {
                full(x);
                five(x);
            }
            default -> { }
        }
        if (state.name().endsWith("DOWN")) {
            x.crash(C);
        }
        return x;
    }

    private static void half(DiskArbiters x, int... answers) {
        x.want(C, 2, 7, 0, 0);
        Check.steps(x, "way to the state", C, answers);
    }

    private static void five(DiskArbiters x) {
        for (int i = 0; i < 5; i++) {
            x.want(C, 2, i, 0, 0);
        }
    }

    private static void sixty(DiskArbiters x) {
        for (int i = 0; i < 60; i++) {
            x.want(C, 3, 0, 0, 0);
            Check.steps(x, "way to sixty wishes", C, 1);
        }
    }

    private static void full(DiskArbiters x) {
        for (int place = 0; place < 24; place++) {
            x.want(C, 2 + place % 2, 7, 2, 2);
            Check.logOne(x, "way to a full log", C);
        }
    }

    private boolean isFull() {
        return state.name().startsWith("FULL");
    }

    private boolean isDown() {
        return state.name().endsWith("DOWN");
    }

    private int wishes() {
        return switch (state) {
            case NEW -> 0;
            case FIVE_WAIT, FIVE_WAIT_DOWN -> 5;
            case SIXTY_HAD -> 60;
            case FULL, FULL_DOWN -> 24;
            case FULL_FIVE -> 29;
            default -> 1;
        };
    }

    /** Numbers beside 0 .. count - 1; cut to a byte or a short, or in a product, some would be inside. */
    private static int[] beside(int count) {
        return new int[] {-1, count, count + 1, -count, 256, 65536, 1 << 29, 1 << 30, Integer.MIN_VALUE, Integer.MAX_VALUE};
    }

    private void refused(String call, Class<? extends RuntimeException> due, Ask ask) {
        DiskArbiters x = inState(state);
        Check.thrown(x, state + ": " + call, due, () -> ask.of(x));
    }

    private void answered(String call, Object due, Ask ask) {
        DiskArbiters x = inState(state);
        Check.due(state + ": " + call, Check.answerOf(() -> ask.of(x)), due);
    }

    private void noSuchController() {
        for (int n : beside(3)) {
            refused("want of " + n, INDEX, x -> x.want(n, 0, 0, 0, 0));
            refused("want of " + n + ", all else wrong too", INDEX, x -> x.want(n, 8, 8, 3, 3));
            refused("step of " + n, INDEX, x -> x.step(n));
            refused("tear of " + n, INDEX, x -> x.tear(n, 0));
            refused("tear of " + n + ", keep 6", INDEX, x -> x.tear(n, 6));
            refused("crash of " + n, INDEX, x -> x.crash(n));
            refused("restart of " + n, INDEX, x -> x.restart(n));
            refused("log of " + n, INDEX, x -> x.log(n));
            refused("entry of " + n, INDEX, x -> x.entry(n, 0));
            refused("outcome of " + n, INDEX, x -> x.outcome(n, 0));
            refused("outcome of " + n + ", wish -1", INDEX, x -> x.outcome(n, -1));
            refused("holds of " + n, INDEX, x -> x.holds(n, 0));
            refused("where of " + n, INDEX, x -> x.where(n, 0));
            refused("reserved of " + n, INDEX, x -> x.reserved(n, 0));
            refused("phase of " + n, INDEX, x -> x.phase(n));
            refused("round of " + n, INDEX, x -> x.round(n));
            refused("vote's entry of " + n, INDEX, x -> x.vote(n, true));
            refused("vote's round of " + n, INDEX, x -> x.vote(n, false));
            refused("word of " + n, INDEX, x -> x.word(0, n, 0, 0));
            refused("word 10 of " + n, INDEX, x -> x.word(0, n, 0, 10));
            refused("accesses of " + n, INDEX, x -> x.accesses(n));
        }
    }

    private void noSuchDisk() {
        for (int n : beside(3)) {
            refused("disk " + n + " fails", INDEX, x -> x.disk(n, false));
            refused("disk " + n + " works", INDEX, x -> x.disk(n, true));
            refused("word at disk " + n, INDEX, x -> x.word(n, C, 0, 0));
            refused("word -1 at disk " + n, INDEX, x -> x.word(n, C, 0, -1));
        }
    }

    private void noSuchPlace() {
        for (int n : beside(24)) {
            refused("entry at " + n, INDEX, x -> x.entry(C, n));
            refused("word at place " + n, INDEX, x -> x.word(0, 0, n, 0));
            refused("word 10 at place " + n, INDEX, x -> x.word(0, 0, n, 10));
        }
    }

    private void noSuchCartridgeOrDrive() {
        for (int n : beside(8)) {
            refused("where " + n, INDEX, x -> x.where(C, n));
        }
        for (int n : beside(3)) {
            refused("holds " + n, INDEX, x -> x.holds(C, n));
            refused("reserved " + n, INDEX, x -> x.reserved(C, n));
        }
    }

    /** Wrong numbers come before too many wishes. */
    private void wishOfWhatIsNotThere() {
        for (int n : beside(8)) {
            refused("want of kind " + n, ARGUMENT, x -> x.want(C, n, 0, 0, 0));
            refused("want of cartridge " + n, ARGUMENT, x -> x.want(C, 0, n, 0, 0));
        }
        for (int n : beside(3)) {
            refused("want of drive " + n, ARGUMENT, x -> x.want(C, 0, 0, n, 0));
            refused("want of client " + n, ARGUMENT, x -> x.want(C, 0, 0, 0, n));
        }
        // What the kind does not need must be there all the same.
        refused("eject at drive 3", ARGUMENT, x -> x.want(C, 2, 0, 3, 0));
        refused("eject for client 3", ARGUMENT, x -> x.want(C, 2, 0, 0, 3));
        refused("switch off, cartridge 8", ARGUMENT, x -> x.want(C, 4, 8, 0, 0));
    }

    private void wishTooMany() {
        boolean tooMany = state.name().contains("FIVE") || state == State.SIXTY_HAD;
        for (int kind = 0; kind < 8; kind++) {
            int k = kind;
            if (tooMany) {
                refused("want of kind " + k, UNSUPPORTED, x -> x.want(C, k, 7, 2, 2));
            } else {
                answered("want of kind " + k, wishes(), x -> x.want(C, k, 7, 2, 2));
            }
        }
        answered("want of another", 0, x -> x.want(0, 7, 7, 2, 2));
    }

    private void stepThatCannotBe() {
        if (isDown()) {
            refused("step", STATE, x -> x.step(C));
        } else if (isFull()) {
            refused("step", ELEMENT, x -> x.step(C));
        }
        answered("step of another", 0, x -> x.step(0));
    }

    private void tearThatCannotBe() {
        for (int n : beside(6)) {
            refused("tear, keep " + n, ARGUMENT, x -> x.tear(C, n));
        }
        for (int keep = 0; keep <= 5; keep++) {
            int k = keep;
            if (isDown()) {
                refused("tear, keep " + k, STATE, x -> x.tear(C, k));
            } else {
                answered("tear, keep " + k, state == State.VOTING, x -> x.tear(C, k));
            }
        }
    }

    private void noSuchEntry() {
        for (int place = 0; place < 24; place++) {
            int p = place;
            if (isFull()) {
                answered("entry at " + p, Check.entry(2 + p % 2, 7, 2, 2, C, p), x -> x.entry(C, p));
            } else {
                refused("entry at " + p, ELEMENT, x -> x.entry(C, p));
            }
            refused("entry of another at " + p, ELEMENT, x -> x.entry(0, p));
        }
    }

    private void noSuchWish() {
        for (int n : beside(wishes())) {
            refused("outcome of wish " + n, ELEMENT, x -> x.outcome(C, n));
        }
        refused("outcome of another's", ELEMENT, x -> x.outcome(0, 0));
        int last = wishes() - 1;
        if (state == State.SIXTY_HAD) {
            answered("outcome of the last", -1, x -> x.outcome(C, last));
        } else if (isFull() && state != State.FULL_FIVE) {
            answered("outcome of the last", 24, x -> x.outcome(C, last));
        } else if (last >= 0) {
            answered("outcome of the last", 0, x -> x.outcome(C, last));
        }
    }

    private void noSuchWord() {
        for (int n : beside(10)) {
            refused("word " + n, ARGUMENT, x -> x.word(0, C, 0, n));
            refused("word " + n + " of the last block", ARGUMENT, x -> x.word(2, 2, 23, n));
        }
    }

    private void firstAndLastAreThere() {
        boolean wrote = state != State.NEW && state != State.WAITING && !state.name().startsWith("FIVE")
                && state != State.SIXTY_HAD;
        answered("word 0 of the first block", 0, x -> x.word(0, 0, 0, 0));
        answered("word 9 of the last block", 0, x -> x.word(2, 2, 23, 9));
        answered("word 0 of what was written first", wrote ? 1 : 0, x -> x.word(0, C, 0, 0));
        answered("word 9 at the last place", isFull() ? 2 : 0, x -> x.word(1, C, 23, 9));
        answered("where 0", 3, x -> x.where(C, 0));
        answered("where 7", 3, x -> x.where(C, 7));
        answered("holds 0", -1, x -> x.holds(C, 0));
        answered("holds 2", -1, x -> x.holds(C, 2));
        answered("reserved 0", -1, x -> x.reserved(C, 0));
        answered("reserved 2", -1, x -> x.reserved(C, 2));
        answered("disk 0 works already", false, x -> x.disk(0, true));
        answered("disk 2 fails", true, x -> x.disk(2, false));
        answered("crash", !isDown(), x -> x.crash(C));
        answered("restart", isDown(), x -> x.restart(C));
        answered("log", isFull() ? 24 : 0, x -> x.log(C));
    }
}
