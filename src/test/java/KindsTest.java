import java.util.Arrays;

/**
 * When an entry of each kind is allowed, and what it does: every state that a cartridge, a drive and a client can be
 * in to each other, times every kind.
 */
public final class KindsTest {
    /** Where the cartridge is, what the drive holds, whether it is on, for whom it is reserved: the kinds allowed. */
    private static final String[] TABLE = {
        "home  nothing on  nobody: 0 2 4 6",
        "home  nothing on  client: 0 2 4 7",
        "home  nothing on  other:  2 4",
        "home  nothing off nobody: 2 5 6",
        "home  nothing off client: 2 5 7",
        "home  nothing off other:  2 5",
        "home  another on  nobody: 1 2 6",
        "home  another on  client: 1 2 7",
        "home  another on  other:  2",
        "out   nothing on  nobody: 3 4 6",
        "out   nothing on  client: 3 4 7",
        "out   nothing on  other:  3 4",
        "out   nothing off nobody: 3 5 6",
        "out   nothing off client: 3 5 7",
        "out   nothing off other:  3 5",
        "out   another on  nobody: 1 3 6",
        "out   another on  client: 1 3 7",
        "out   another on  other:  3",
        "there it      on  nobody: 1 6",
        "there it      on  client: 1 7",
        "there it      on  other: ",
        "away  nothing on  nobody: 4 6",
        "away  nothing on  client: 4 7",
        "away  nothing on  other:  4",
        "away  nothing off nobody: 5 6",
        "away  nothing off client: 5 7",
        "away  nothing off other:  5",
        "away  another on  nobody: 1 6",
        "away  another on  client: 1 7",
        "away  another on  other: ",
    };

    private final DiskArbiters x = new DiskArbiters();
    private final String what;
    private final int by;
    private final int cartridge;
    private final int drive;
    private final int client;

    private KindsTest(String what, int by, int cartridge, int drive, int client) {
        this.what = what;
        this.by = by;
        this.cartridge = cartridge;
        this.drive = drive;
        this.client = client;
    }

    public static void main(String[] args) {
        int[] cartridges = {0, 3, 7};
        for (String row : TABLE) {
            String[] parts = row.split(":");
            for (int kind = 0; kind < 8; kind++) {
                boolean allowed = parts[1].contains("" + kind);
                for (int i = 0; i < 3; i++) {
                    KindsTest test = new KindsTest(parts[0] + ", kind " + kind, i, cartridges[i], i, 2 - i);
                    test.prepare(parts[0]);
                    test.tryKind(kind, allowed);
                }
            }
        }
        Check.end();
    }

    private void log(int kind, int ofCartridge, int atDrive, int forClient) {
        x.want(by, kind, ofCartridge, atDrive, forClient);
        Check.logOne(x, what + ", made ready", by);
    }

    private void prepare(String row) {
        if (row.contains("out")) {
            log(2, cartridge, drive, client);
        } else if (row.contains("there")) {
            log(0, cartridge, drive, client);
        } else if (row.contains("away")) {
            log(0, cartridge, (drive + 1) % 3, client);
        }
        if (row.contains("another")) {
            log(0, (cartridge + 1) % 8, drive, client);
        }
        if (row.contains("off")) {
            log(4, cartridge, drive, client);
        }
        if (row.contains("client")) {
            log(6, cartridge, drive, client);
        } else if (row.endsWith(" other")) {
            log(6, cartridge, drive, (client + 1) % 3);
        }
    }

    /** Where each cartridge is, what each drive holds, for whom it is reserved. */
    private int[] library() {
        int[] seen = new int[14];
        for (int i = 0; i < 8; i++) {
            seen[i] = x.where(by, i);
        }
        for (int i = 0; i < 3; i++) {
            seen[8 + i] = x.holds(by, i);
            seen[11 + i] = x.reserved(by, i);
        }
        return seen;
    }

    private void tryKind(int kind, boolean allowed) {
        int[] library = library();
        int places = x.log(by);
        int wish = x.want(by, kind, cartridge, drive, client);
        if (allowed) {
            Check.logOne(x, what + " is allowed", by);
            change(library, kind);
        } else {
            Check.steps(x, what + " is refused", by, 1);
        }
        Check.due(what + ": library", Arrays.toString(library()), Arrays.toString(library));
        Check.due(what + ": outcome", x.outcome(by, wish), allowed ? places + 1 : -1);
        Check.due(what + ": log", x.log(by), places + (allowed ? 1 : 0));
        Check.steps(x, what + ": no wish waits", by, 0);
    }

    private void change(int[] library, int kind) {
        switch (kind) {
            case 0 -> {
                library[cartridge] = drive;
                library[8 + drive] = cartridge;
            }
            case 1 -> {
                library[library[8 + drive]] = 3;
                library[8 + drive] = -1;
            }
            case 2 -> library[cartridge] = 4;
            case 3 -> library[cartridge] = 3;
            case 4 -> library[11 + drive] += 10;
            case 5 -> library[11 + drive] -= 10;
            case 6 -> library[11 + drive] += client + 1;
            default -> library[11 + drive] -= client + 1;
        }
    }
}
