import java.util.NoSuchElementException;

/** Promises 8, 9, 11, 12, 13 and the terms' list of kinds: what an entry does, and when it is allowed. */
public final class LibraryTest {
    private static final int MOUNT = 0;
    private static final int UNMOUNT = 1;
    private static final int EJECT = 2;
    private static final int INSERT = 3;
    private static final int OFF = 4;
    private static final int ON = 5;
    private static final int RESERVE = 6;
    private static final int RELEASE = 7;
    private static final int HOME = 3;
    private static final int OUT = 4;

    private final DiskArbiters x = new DiskArbiters();
    private final String name;
    private final int by;

    private LibraryTest(String name, int by) {
        this.name = name;
        this.by = by;
    }

    public static void main(String[] args) {
        for (int c = 0; c < 3; c++) {
            new LibraryTest("mount by " + c, c).mountAndUnmount();
            new LibraryTest("eject by " + c, c).ejectAndInsert();
            new LibraryTest("switch by " + c, c).switches();
            new LibraryTest("reserve by " + c, c).reservations();
            new LibraryTest("reserved mount by " + c, c).reservedDrives();
            new LibraryTest("reserved and off by " + c, c).allOfReserved();
            new LibraryTest("log by " + c, c).logAndEntries();
        }
        onlyItsOwnState();
        Check.end();
    }

    private void done(int kind, int cartridge, int drive, int client) {
        x.want(by, kind, cartridge, drive, client);
        Check.logOne(x, name + ": kind " + kind + " is allowed", by);
    }

    private void refused(int kind, int cartridge, int drive, int client) {
        int wish = x.want(by, kind, cartridge, drive, client);
        String before = Check.picture(x).replaceAll("wishes=.*", "");
        Check.due(name + ": kind " + kind + " is refused", x.step(by), 1);
        Check.due(name + ": outcome", x.outcome(by, wish), -1);
        Check.due(name + ": state", Check.picture(x).replaceAll("wishes=.*", ""), before);
    }

    private void drive(int drive, int holds, int reserved) {
        Check.due(name + ": holds " + drive, x.holds(by, drive), holds);
        Check.due(name + ": reserved " + drive, x.reserved(by, drive), reserved);
    }

    private void cartridge(int cartridge, int where) {
        Check.due(name + ": where " + cartridge, x.where(by, cartridge), where);
    }

    private void mountAndUnmount() {
        refused(UNMOUNT, 0, 0, 0);
        done(MOUNT, 7, 2, 1);
        cartridge(7, 2);
        cartridge(6, HOME);
        drive(2, 7, -1);
        drive(0, -1, -1);
        refused(MOUNT, 7, 0, 1);
        refused(MOUNT, 6, 2, 1);
        refused(UNMOUNT, 7, 0, 1);
        done(MOUNT, 0, 0, 0);
        cartridge(0, 0);
        drive(0, 0, -1);
        drive(2, 7, -1);
        done(UNMOUNT, 0, 2, 2);
        cartridge(7, HOME);
        cartridge(0, 0);
        drive(2, -1, -1);
        refused(UNMOUNT, 7, 2, 1);
        done(MOUNT, 7, 1, 1);
        cartridge(7, 1);
        done(UNMOUNT, 5, 0, 0);
        cartridge(0, HOME);
        cartridge(5, HOME);
        done(MOUNT, 5, 0, 0);
        cartridge(5, 0);
    }

    private void ejectAndInsert() {
        refused(INSERT, 3, 0, 0);
        done(EJECT, 3, 0, 0);
        cartridge(3, OUT);
        cartridge(2, HOME);
        refused(EJECT, 3, 1, 1);
        refused(MOUNT, 3, 0, 0);
        done(MOUNT, 2, 0, 0);
        refused(EJECT, 2, 0, 0);
        refused(INSERT, 2, 0, 0);
        done(INSERT, 3, 2, 2);
        cartridge(3, HOME);
        done(MOUNT, 3, 2, 2);
        cartridge(3, 2);
    }

    private void switches() {
        refused(ON, 0, 1, 0);
        done(OFF, 0, 1, 0);
        drive(1, -1, 9);
        drive(0, -1, -1);
        refused(OFF, 0, 1, 0);
        refused(MOUNT, 0, 1, 0);
        done(ON, 0, 1, 2);
        drive(1, -1, -1);
        done(MOUNT, 0, 1, 0);
        refused(OFF, 0, 1, 0);
        refused(ON, 0, 1, 0);
        done(UNMOUNT, 0, 1, 0);
        done(OFF, 0, 1, 0);
        drive(1, -1, 9);
    }

    private void reservations() {
        refused(RELEASE, 0, 0, 0);
        done(RESERVE, 0, 0, 0);
        drive(0, -1, 0);
        drive(1, -1, -1);
        refused(RESERVE, 0, 0, 0);
        refused(RESERVE, 0, 0, 1);
        refused(RELEASE, 0, 0, 1);
        refused(RELEASE, 0, 1, 0);
        done(RESERVE, 0, 1, 2);
        drive(1, -1, 2);
        done(RELEASE, 0, 0, 0);
        drive(0, -1, -1);
        drive(1, -1, 2);
        refused(RELEASE, 0, 0, 0);
        done(RESERVE, 0, 0, 1);
        drive(0, -1, 1);
        done(MOUNT, 4, 2, 0);
        done(RESERVE, 0, 2, 1);
        drive(2, 4, 1);
        refused(UNMOUNT, 4, 2, 0);
        done(UNMOUNT, 4, 2, 1);
        drive(2, -1, 1);
    }

    private void reservedDrives() {
        done(RESERVE, 0, 1, 1);
        refused(MOUNT, 2, 1, 0);
        refused(MOUNT, 2, 1, 2);
        done(MOUNT, 2, 1, 1);
        drive(1, 2, 1);
        refused(UNMOUNT, 2, 1, 0);
        refused(UNMOUNT, 2, 1, 2);
        done(UNMOUNT, 2, 1, 1);
        drive(1, -1, 1);
        done(OFF, 0, 1, 2);
        drive(1, -1, 11);
        refused(MOUNT, 2, 1, 1);
        done(RELEASE, 0, 1, 1);
        drive(1, -1, 9);
        done(RESERVE, 0, 1, 2);
        drive(1, -1, 12);
        done(ON, 0, 1, 0);
        drive(1, -1, 2);
    }

    private void allOfReserved() {
        for (int client = 0; client < 3; client++) {
            done(RESERVE, 0, client, client);
            drive(client, -1, client);
            done(OFF, 0, client, 0);
            drive(client, -1, 10 + client);
        }
    }

    private void logAndEntries() {
        done(RESERVE, 6, 2, 1);
        Check.due(name + ": log", x.log(by), 1);
        refused(RESERVE, 6, 2, 1);
        Check.due(name + ": log", x.log(by), 1);
        done(RELEASE, 5, 2, 1);
        Check.due(name + ": log", x.log(by), 2);
        Check.due(name + ": entry 0", x.entry(by, 0), Check.entry(RESERVE, 6, 2, 1, by, 0));
        Check.due(name + ": entry 1", x.entry(by, 1), Check.entry(RELEASE, 5, 2, 1, by, 2));
        Check.thrown(x, name + ": entry 2", NoSuchElementException.class, () -> x.entry(by, 2));
        Check.thrown(x, name + ": entry 23", NoSuchElementException.class, () -> x.entry(by, 23));
        Check.thrown(x, name + ": entry 24", IndexOutOfBoundsException.class, () -> x.entry(by, 24));
        Check.thrown(x, name + ": entry -1", IndexOutOfBoundsException.class, () -> x.entry(by, -1));
        x.crash(by);
        Check.due(name + ": log when down", x.log(by), 2);
        Check.due(name + ": entry when down", x.entry(by, 1), Check.entry(RELEASE, 5, 2, 1, by, 2));
    }

    private static void onlyItsOwnState() {
        LibraryTest test = new LibraryTest("own state", 1);
        test.done(MOUNT, 1, 1, 1);
        test.done(RESERVE, 1, 2, 1);
        for (int c = 0; c < 3; c += 2) {
            Check.due("log of " + c, test.x.log(c), 0);
            Check.due("holds of " + c, test.x.holds(c, 1), -1);
            Check.due("where of " + c, test.x.where(c, 1), HOME);
            Check.due("reserved of " + c, test.x.reserved(c, 2), -1);
        }
        test.x.crash(1);
        test.drive(1, 1, -1);
        test.drive(2, -1, 1);
        test.cartridge(1, 1);
    }
}
