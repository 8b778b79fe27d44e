import java.util.NoSuchElementException;

/** Promise 1: a new object. */
public final class NewObjectTest {
    public static void main(String[] args) {
        for (int c = 0; c < 3; c++) {
            controllerIsNew(c);
        }
        for (int d = 0; d < 3; d++) {
            for (int place = 0; place < 24; place++) {
                DiskArbiters x = new DiskArbiters();
                for (int c = 0; c < 3; c++) {
                    Check.block(x, "new block " + d + " " + c + " " + place, d, c, place);
                }
                Check.due("disk " + d + " works at first", x.disk(d, true), false);
            }
        }
        objectsAreApart();
        Check.end();
    }

    private static void controllerIsNew(int c) {
        DiskArbiters x = new DiskArbiters();
        String who = "new controller " + c + ": ";
        Check.due(who + "log", x.log(c), 0);
        Check.due(who + "phase", x.phase(c), 0);
        Check.due(who + "round", x.round(c), 0);
        Check.due(who + "round of vote", x.vote(c, false), 0);
        Check.due(who + "entry of vote", x.vote(c, true), 0);
        Check.due(who + "accesses", x.accesses(c), 0);
        for (int drive = 0; drive < 3; drive++) {
            Check.due(who + "holds", x.holds(c, drive), DiskArbiters.NONE);
            Check.due(who + "reserved", x.reserved(c, drive), DiskArbiters.NONE);
        }
        for (int cartridge = 0; cartridge < 8; cartridge++) {
            Check.due(who + "where", x.where(c, cartridge), 3);
        }
        Check.thrown(x, who + "entry", NoSuchElementException.class, () -> x.entry(c, 0));
        Check.thrown(x, who + "outcome", NoSuchElementException.class, () -> x.outcome(c, 0));
        Check.due(who + "step", x.step(c), 0);
        Check.due(who + "restart", x.restart(c), false);
        Check.due(who + "crash", x.crash(c), true);
    }

    private static void objectsAreApart() {
        DiskArbiters used = new DiskArbiters();
        DiskArbiters other = new DiskArbiters();
        String before = Check.picture(other);
        used.want(0, 0, 1, 2, 0);
        Check.logOne(used, "used object", 0);
        used.disk(1, false);
        used.crash(2);
        Check.due("another object", Check.picture(other), before);
    }
}
