/** Houses that tests begin with, and all that a house tells. */
final class Sample {
    private static final int NONE = GrowHouse.NONE;

    private Sample() {
    }

    /**
     * 3 DISKS, 4 ROWS, BLOCKS 10 to 17:
     * ROW 0: 10 11 P, ROW 1: 13 P 12, ROW 2: P 14 15, ROW 3: 16 17 P (each P is 1).
     */
    static GrowHouse small() {
        GrowHouse x = new GrowHouse();
        x.make(3, 4);
        x.fill(0, 8, 10);
        return x;
    }

    /**
     * The same, GROWN: 3 NEW STRIPES, a BATCH of 22 STEPS (6 READ, 6 BACKUP, MARK, 8 WRITE, CHECKPOINT), one of 7
     * (2 READ, 4 WRITE, CHECKPOINT). By NEW, ROW 0: 10 11 12 P, ROW 1: 14 15 P 13, ROW 2: 0 P 16 17.
     */
    static GrowHouse growing() {
        GrowHouse x = small();
        x.grow();
        return x;
    }

    /** So many DISKS (3 to 7) of 40 ROWS, BLOCKS 1, 2, .. */
    static GrowHouse large(int disks) {
        GrowHouse x = new GrowHouse();
        x.make(Math.min(disks, 6), 40);
        if (disks == 7) {
            x.grow();
            x.steps(400);
            x.steps(400);
        }
        int blocks = x.count(2);
        x.fill(0, Math.min(200, blocks), 1);
        if (blocks > 200) {
            x.fill(200, blocks - 200, 201);
        }
        return x;
    }

    /** Not GROWN: REQUESTS, one that was served, an IMAGE, a BAD word, a wrong PARITY, 5 bytes on the TAPE. */
    static GrowHouse calm() {
        GrowHouse x = small();
        x.set(0, 1);
        x.set(1, 3);
        x.set(2, 30);
        x.ask(true, 7, 70, 0);
        x.tick(2);
        x.image(0);
        x.ask(true, 6, 60, 5);
        x.ask(false, 2, 0, 9);
        x.bad(1, 2);
        x.poke(2, 3, 99);
        x.feed(1, 2, 3);
        x.end(5);
        return x;
    }

    /** Like calm(), GROWN, BORDER 1, nothing MOVING: the next BATCH has 12 STEPS. */
    static GrowHouse between() {
        GrowHouse x = calm();
        x.grow();
        x.steps(12);
        return x;
    }

    /** Like between(), MOVING: BLOCKS 3 to 5, all READ. */
    static GrowHouse moving() {
        GrowHouse x = between();
        x.steps(4);
        return x;
    }

    /** Like calm(), DISK 1 is LOST. */
    static GrowHouse lost() {
        GrowHouse x = calm();
        x.lose(1);
        return x;
    }

    /** All that a house tells, and what it would tell behind back(): it is of no use then. */
    static String told(GrowHouse x) {
        StringBuilder text = new StringBuilder();
        tellState(x, text);
        for (int number = 0; number <= x.count(5); number++) {
            for (int what = 0; what < 3; what++) {
                int n = number;
                int w = what;
                text.append(" served ").append(Check.answer(() -> x.served(n, w)));
            }
        }
        for (int i = 0; i < 2; i++) {
            text.append(" back ").append(x.back(i));
            tellState(x, text);
        }
        return text.append(" script ").append(x.script()).toString();
    }

    private static void tellState(GrowHouse x, StringBuilder text) {
        for (int what = 0; what <= 16; what++) {
            text.append(" count ").append(x.count(what));
        }
        for (int what = 0; what < 8; what++) {
            text.append(" batch ").append(x.batch(what));
        }
        for (int block = 0; block < x.count(2); block++) {
            int b = block;
            text.append(" read ").append(Check.answer(() -> x.read(b))).append(" moving ").append(x.of(b, 3));
        }
        for (int disk = 0; disk < x.count(0); disk++) {
            text.append(" laid ").append(x.laid(disk));
            for (int row = 0; row < x.count(1); row++) {
                text.append(' ').append(x.word(disk, row));
            }
        }
        for (int i = 0; i <= x.badAt(NONE); i++) {
            text.append(" badAt ").append(x.badAt(i));
        }
        for (int i = 0; i <= x.scrub(NONE); i++) {
            text.append(" scrub ").append(x.scrub(i));
        }
        for (int i = 0; i < x.request(NONE, 0); i++) {
            for (int what = 0; what < 4; what++) {
                text.append(" request ").append(x.request(i, what));
            }
        }
        text.append(" spoilt ").append(x.spoilt()).append(" forecast ").append(x.forecast(7));
    }
}
