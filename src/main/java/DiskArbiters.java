import java.util.Arrays;
import java.util.NoSuchElementException;

/**
 * Controllers of a tape library that agree on one log of what is done with cartridges and drives,
 * though they meet in shared disks alone. README.md tells how it is used.
 */
public final class DiskArbiters {
    public static final int NONE = -1;

    private static final int CONTROLLERS = 3;
    private static final int DISKS = 3;
    private static final int PLACES = 24;
    private static final int CARTRIDGES = 8;
    private static final int DRIVES = 3;
    private static final int CLIENTS = 3;
    private static final int KINDS = 8;

    private static final int WISHES_IN_ALL = 60;
    private static final int WISHES_WAITING = 5;
    private static final int DISKS_NEEDED = 2;

    private final Disk[] disks = new Disk[DISKS];
    private final Controller[] controllers = new Controller[CONTROLLERS];

    public DiskArbiters() {
        for (int d = 0; d < DISKS; d++) {
            disks[d] = new Disk();
        }
        for (int c = 0; c < CONTROLLERS; c++) {
            controllers[c] = new Controller(c);
        }
    }

    public int want(int controller, int kind, int cartridge, int drive, int client)
            throws IndexOutOfBoundsException, IllegalArgumentException, UnsupportedOperationException {
        Wishes wishes = controllerAt(controller).file.wishes;
        if (!isBelow(kind, KINDS) || !isBelow(cartridge, CARTRIDGES)
                || !isBelow(drive, DRIVES) || !isBelow(client, CLIENTS)) {
            throw new IllegalArgumentException("no such kind, cartridge, drive or client");
        }
        if (!wishes.hasRoom()) {
            throw new UnsupportedOperationException("too many wishes");
        }
        return wishes.add(Entry.of(kind, cartridge, drive, client, controller, wishes.count));
    }

    public int step(int controller)
            throws IndexOutOfBoundsException, IllegalStateException, NoSuchElementException {
        Controller stepping = controllerThatIsUp(controller);
        if (!stepping.file.hasPlaceLeft()) {
            throw new NoSuchElementException("no place is left");
        }
        return stepping.takeStep(disks);
    }

    public boolean disk(int d, boolean works) throws IndexOutOfBoundsException {
        Disk changed = diskAt(d);
        boolean changes = changed.works != works;
        changed.works = works;
        return changes;
    }

    public boolean tear(int controller, int keep)
            throws IndexOutOfBoundsException, IllegalArgumentException, IllegalStateException {
        checkController(controller);
        if (!isBelow(keep, Disk.SLOT_WORDS + 1)) {
            throw new IllegalArgumentException("a slot has five words");
        }
        return controllerThatIsUp(controller).tearWrite(disks, keep);
    }

    public boolean crash(int controller) throws IndexOutOfBoundsException {
        Controller crashing = controllerAt(controller);
        boolean wasUp = crashing.up;
        crashing.up = false;
        return wasUp;
    }

    /** One that is up is restarted as well: the document says what holds behind the call, without a condition. */
    public boolean restart(int controller) throws IndexOutOfBoundsException {
        Controller restarting = controllerAt(controller);
        boolean wasDown = !restarting.up;
        restarting.comeUp();
        return wasDown;
    }

    public int log(int controller) throws IndexOutOfBoundsException {
        return controllerAt(controller).file.length;
    }

    public int entry(int controller, int place) throws IndexOutOfBoundsException, NoSuchElementException {
        KeptFile file = controllerAt(controller).file;
        checkPlace(place);
        if (place >= file.length) {
            throw new NoSuchElementException("no entry at that place");
        }
        return file.entries[place];
    }

    public int outcome(int controller, int wish) throws IndexOutOfBoundsException, NoSuchElementException {
        Wishes wishes = controllerAt(controller).file.wishes;
        if (!isBelow(wish, wishes.count)) {
            throw new NoSuchElementException("no such wish");
        }
        return wishes.outcomes[wish];
    }

    public int holds(int controller, int drive) throws IndexOutOfBoundsException {
        Library library = controllerAt(controller).file.library;
        checkDrive(drive);
        return library.heldIn[drive];
    }

    public int where(int controller, int cartridge) throws IndexOutOfBoundsException {
        Library library = controllerAt(controller).file.library;
        if (!isBelow(cartridge, CARTRIDGES)) {
            throw new IndexOutOfBoundsException("no such cartridge");
        }
        return library.spotOf[cartridge];
    }

    public int reserved(int controller, int drive) throws IndexOutOfBoundsException {
        Library library = controllerAt(controller).file.library;
        checkDrive(drive);
        return library.off[drive] ? library.reservedFor[drive] + 10 : library.reservedFor[drive];
    }

    public int phase(int controller) throws IndexOutOfBoundsException {
        Controller asked = controllerAt(controller);
        return asked.up ? asked.phase : NONE;
    }

    public int round(int controller) throws IndexOutOfBoundsException {
        return controllerAt(controller).file.started;
    }

    public int vote(int controller, boolean entry) throws IndexOutOfBoundsException {
        KeptFile file = controllerAt(controller).file;
        return entry ? file.voteEntry : file.voteRound;
    }

    public int word(int d, int controller, int place, int i)
            throws IndexOutOfBoundsException, IllegalArgumentException {
        Disk read = diskAt(d);
        checkController(controller);
        checkPlace(place);
        if (!isBelow(i, Disk.BLOCK_WORDS)) {
            throw new IllegalArgumentException("a block has ten words");
        }
        return read.words[Disk.blockOf(controller, place) + i];
    }

    public int accesses(int controller) throws IndexOutOfBoundsException {
        return controllerAt(controller).blocksAccessed;
    }

    private static boolean isBelow(int number, int bound) {
        return number >= 0 && number < bound;
    }

    private static void checkController(int controller) {
        if (!isBelow(controller, CONTROLLERS)) {
            throw new IndexOutOfBoundsException("no such controller");
        }
    }

    private static void checkPlace(int place) {
        if (!isBelow(place, PLACES)) {
            throw new IndexOutOfBoundsException("no such place");
        }
    }

    private static void checkDrive(int drive) {
        if (!isBelow(drive, DRIVES)) {
            throw new IndexOutOfBoundsException("no such drive");
        }
    }

    private Controller controllerAt(int controller) {
        checkController(controller);
        return controllers[controller];
    }

    private Controller controllerThatIsUp(int controller) {
        Controller found = controllerAt(controller);
        if (!found.up) {
            throw new IllegalStateException("the controller is down");
        }
        return found;
    }

    private Disk diskAt(int d) {
        if (!isBelow(d, DISKS)) {
            throw new IndexOutOfBoundsException("no such disk");
        }
        return disks[d];
    }

    /** How an entry's parts lie in its int. */
    private static final class Entry {
        static int of(int kind, int cartridge, int drive, int client, int controller, int wish) {
            return kind + 8 * cartridge + 64 * drive + 256 * client + 1024 * controller + 4096 * wish;
        }

        static int kindOf(int entry) {
            return entry & 7;
        }

        static int cartridgeOf(int entry) {
            return entry >> 3 & 7;
        }

        static int driveOf(int entry) {
            return entry >> 6 & 3;
        }

        static int clientOf(int entry) {
            return entry >> 8 & 3;
        }

        static int controllerOf(int entry) {
            return entry >> 10 & 3;
        }

        static int wishOf(int entry) {
            return entry >> 12;
        }
    }

    /** The library's state after the entries of one log. */
    private static final class Library {
        private static final int HOME = 3;
        private static final int OUT = 4;

        private static final int MOUNT = 0;
        private static final int UNMOUNT = 1;
        private static final int EJECT = 2;
        private static final int INSERT = 3;
        private static final int SWITCH_OFF = 4;
        private static final int SWITCH_ON = 5;
        private static final int RESERVE = 6;
        private static final int RELEASE = 7;

        private final int[] spotOf = new int[CARTRIDGES];
        private final int[] heldIn = new int[DRIVES];
        private final int[] reservedFor = new int[DRIVES];
        private final boolean[] off = new boolean[DRIVES];

        Library() {
            Arrays.fill(spotOf, HOME);
            Arrays.fill(heldIn, NONE);
            Arrays.fill(reservedFor, NONE);
        }

        boolean allows(int entry) {
            int spot = spotOf[Entry.cartridgeOf(entry)];
            int drive = Entry.driveOf(entry);
            int client = Entry.clientOf(entry);
            boolean empty = heldIn[drive] == NONE;
            switch (Entry.kindOf(entry)) {
                case MOUNT:
                    return spot == HOME && empty && !off[drive] && isOpenTo(client, drive);
                case UNMOUNT:
                    return !empty && isOpenTo(client, drive);
                case EJECT:
                    return spot == HOME;
                case INSERT:
                    return spot == OUT;
                case SWITCH_OFF:
                    return !off[drive] && empty;
                case SWITCH_ON:
                    return off[drive];
                case RESERVE:
                    return reservedFor[drive] == NONE;
                case RELEASE:
                    return reservedFor[drive] == client;
                default:
                    return false;
            }
        }

        void carryOut(int entry) {
            int cartridge = Entry.cartridgeOf(entry);
            int drive = Entry.driveOf(entry);
            switch (Entry.kindOf(entry)) {
                case MOUNT:
                    spotOf[cartridge] = drive;
                    heldIn[drive] = cartridge;
                    break;
                case UNMOUNT:
                    empty(drive);
                    break;
                case EJECT:
                    spotOf[cartridge] = OUT;
                    break;
                case INSERT:
                    spotOf[cartridge] = HOME;
                    break;
                case SWITCH_OFF:
                    off[drive] = true;
                    break;
                case SWITCH_ON:
                    off[drive] = false;
                    break;
                case RESERVE:
                    reservedFor[drive] = Entry.clientOf(entry);
                    break;
                case RELEASE:
                    reservedFor[drive] = NONE;
                    break;
                default:
                    break;
            }
        }

        private boolean isOpenTo(int client, int drive) {
            return reservedFor[drive] == NONE || reservedFor[drive] == client;
        }

        /** An unmount names a cartridge too, but what goes home is what the drive holds. */
        private void empty(int drive) {
            int held = heldIn[drive];
            if (held != NONE) {
                spotOf[held] = HOME;
                heldIn[drive] = NONE;
            }
        }
    }

    /** A controller's wishes in the order in which they came. */
    private static final class Wishes {
        private static final int WAITING = 0;
        private static final int REFUSED = -1;

        private final int[] entries = new int[WISHES_IN_ALL];
        private final int[] outcomes = new int[WISHES_IN_ALL];
        private int count;
        private int waiting;

        boolean hasRoom() {
            return count < WISHES_IN_ALL && waiting < WISHES_WAITING;
        }

        int add(int entry) {
            entries[count] = entry;
            outcomes[count] = WAITING;
            waiting++;
            count++;
            return count - 1;
        }

        int firstWaiting() {
            for (int wish = 0; wish < count; wish++) {
                if (outcomes[wish] == WAITING) {
                    return wish;
                }
            }
            return NONE;
        }

        void settle(int wish, int how) {
            if (isBelow(wish, count) && outcomes[wish] == WAITING) {
                outcomes[wish] = how;
                waiting--;
            }
        }
    }

    /** A shared disk: a block of two slots for each controller and place, one behind the other. */
    private static final class Disk {
        private static final int SLOT_WORDS = 5;
        private static final int BLOCK_WORDS = 10;

        private static final int NUMBER = 0;
        private static final int ROUND = 1;
        private static final int VOTE_ROUND = 2;
        private static final int VOTED = 3;
        private static final int MARK = 4;

        private final int[] words = new int[CONTROLLERS * PLACES * BLOCK_WORDS];
        private final int[] draft = new int[SLOT_WORDS];
        private boolean works = true;

        static int blockOf(int controller, int place) {
            return (controller * PLACES + place) * BLOCK_WORDS;
        }

        int said(int block, int which) {
            int slot = newestSlot(block);
            return slot == NONE ? 0 : words[slot + which];
        }

        /** Writes a block's next slot from file's round and vote, but only the first keep words of it. */
        void write(int block, KeptFile file, int keep) {
            int newest = newestSlot(block);
            int number = newest == NONE ? 1 : words[newest + NUMBER] + 1;
            draft[NUMBER] = number;
            draft[ROUND] = file.started;
            draft[VOTE_ROUND] = file.voteRound;
            draft[VOTED] = file.voteEntry;
            draft[MARK] = number;
            int slot = newest == block ? block + SLOT_WORDS : block;
            System.arraycopy(draft, 0, words, slot, keep);
        }

        /** Where the whole slot with the greatest number begins; NONE if none is whole. */
        private int newestSlot(int block) {
            int second = block + SLOT_WORDS;
            if (!isWhole(second)) {
                return isWhole(block) ? block : NONE;
            }
            return isWhole(block) && words[block + NUMBER] > words[second + NUMBER] ? block : second;
        }

        private boolean isWhole(int slot) {
            return words[slot + NUMBER] != 0 && words[slot + NUMBER] == words[slot + MARK];
        }
    }

    /** What a controller still has after a crash. */
    private static final class KeptFile {
        private final int[] entries = new int[PLACES];
        private int length;
        private final Library library = new Library();
        private final Wishes wishes = new Wishes();
        private int started;
        private int voteRound;
        private int voteEntry;

        boolean hasPlaceLeft() {
            return length < PLACES;
        }

        void voteFor(int entry) {
            voteRound = started;
            voteEntry = entry;
        }

        void logVotedEntry(int controller) {
            int entry = voteEntry;
            entries[length] = entry;
            library.carryOut(entry);
            if (Entry.controllerOf(entry) == controller) {
                wishes.settle(Entry.wishOf(entry), length + 1);
            }
            length++;
            voteRound = 0;
            voteEntry = 0;
        }
    }

    /** One controller: its file, and what it forgets when it crashes. */
    private static final class Controller {
        private static final int IDLE = 0;
        private static final int ASKING = 1;
        private static final int VOTING = 2;

        private static final int DID_NOTHING = 0;
        private static final int DID_REFUSE = 1;
        private static final int DID_START = 2;
        private static final int DID_PASS_FAILED_DISK = 3;
        private static final int DID_WRITE = 4;
        private static final int DID_READ = 5;
        private static final int DID_GIVE_WAY = 6;
        private static final int DID_VOTE = 7;
        private static final int DID_LOG = 8;

        private final int number;
        private final KeptFile file = new KeptFile();
        private boolean up = true;
        private int phase;
        private int greatestSeen;
        private int bestRound;
        private int bestEntry;
        private int ownEntry;
        private int atDisk;
        private boolean written;
        private int blocksRead;
        private int disksDone;
        private int blocksAccessed;

        Controller(int number) {
            this.number = number;
        }

        void comeUp() {
            up = true;
            phase = IDLE;
            greatestSeen = 0;
        }

        /** Only for a controller that is up and has a place left. */
        int takeStep(Disk[] disks) {
            if (phase == IDLE) {
                return turnToNextWish();
            }
            Disk disk = disks[atDisk];
            if (!disk.works) {
                goToNextDisk();
                return DID_PASS_FAILED_DISK;
            }
            if (!written) {
                writeOwnBlock(disk, Disk.SLOT_WORDS);
                return DID_WRITE;
            }
            return readNextBlock(disk);
        }

        boolean tearWrite(Disk[] disks, int keep) {
            if (phase == IDLE || written || !disks[atDisk].works) {
                return false;
            }
            writeOwnBlock(disks[atDisk], keep);
            up = false;
            return true;
        }

        private int turnToNextWish() {
            int wish = file.wishes.firstWaiting();
            if (wish == NONE) {
                return DID_NOTHING;
            }
            int entry = file.wishes.entries[wish];
            if (!file.library.allows(entry)) {
                file.wishes.settle(wish, Wishes.REFUSED);
                return DID_REFUSE;
            }
            startRound(entry);
            return DID_START;
        }

        /** The entry is kept for the round's vote: no wish ends before the round does. */
        private void startRound(int entry) {
            file.started = nextOwnRound(Math.max(file.started, greatestSeen));
            ownEntry = entry;
            bestRound = file.voteRound;
            bestEntry = file.voteEntry;
            enter(ASKING);
        }

        /** The least round above that one of the form 3 * i + number + 1: no other controller starts it. */
        private int nextOwnRound(int above) {
            return above + 1 + Math.floorMod(number - above, CONTROLLERS);
        }

        private void enter(int next) {
            phase = next;
            disksDone = 0;
            comeToDisk(0);
        }

        private void goToNextDisk() {
            if (atDisk + 1 < DISKS) {
                comeToDisk(atDisk + 1);
            } else {
                enter(phase);
            }
        }

        private void comeToDisk(int d) {
            atDisk = d;
            written = false;
            blocksRead = 0;
        }

        private void writeOwnBlock(Disk disk, int keep) {
            disk.write(Disk.blockOf(number, file.length), file, keep);
            written = true;
            blocksAccessed++;
        }

        private int readNextBlock(Disk disk) {
            int other = blocksRead < number ? blocksRead : blocksRead + 1;
            int block = Disk.blockOf(other, file.length);
            int round = disk.said(block, Disk.ROUND);
            blocksRead++;
            blocksAccessed++;
            greatestSeen = Math.max(greatestSeen, round);
            weighVote(disk.said(block, Disk.VOTE_ROUND), disk.said(block, Disk.VOTED));
            if (round > file.started) {
                phase = IDLE;
                return DID_GIVE_WAY;
            }
            return blocksRead < CONTROLLERS - 1 ? DID_READ : finishDisk();
        }

        private void weighVote(int round, int entry) {
            if (round > bestRound) {
                bestRound = round;
                bestEntry = entry;
            }
        }

        private int finishDisk() {
            disksDone++;
            if (disksDone < DISKS_NEEDED) {
                goToNextDisk();
                return DID_READ;
            }
            if (phase == ASKING) {
                castVote();
                return DID_VOTE;
            }
            file.logVotedEntry(number);
            phase = IDLE;
            return DID_LOG;
        }

        /** Whether there is a best vote is told by its round: 0 is an entry like others. */
        private void castVote() {
            file.voteFor(bestRound == 0 ? ownEntry : bestEntry);
            enter(VOTING);
        }
    }
}
