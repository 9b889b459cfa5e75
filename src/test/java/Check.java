import java.util.NoSuchElementException;
import java.util.function.IntSupplier;

/** Counts and tells the answers that are not as due. */
final class Check {
    /** No int, so no answer. */
    static final long MISSING = Long.MAX_VALUE;

    private static int wrong = 0;
    private static int asked = 0;
    private static String part = "";

    private Check() {
    }

    static void part(String name) {
        part = name;
    }

    static void is(String what, long got, long want) {
        asked++;
        if (got != want) {
            wrong++;
            System.out.println(part + ": " + what + " answered " + got + ", due is " + want);
        }
    }

    static void yes(String what, boolean got) {
        is(what, got ? 1 : 0, 1);
    }

    static void no(String what, boolean got) {
        is(what, got ? 1 : 0, 0);
    }

    static void missing(String what, IntSupplier call) {
        asked++;
        try {
            int got = call.getAsInt();
            wrong++;
            System.out.println(part + ": " + what + " answered " + got + ", due is NoSuchElementException");
        } catch (NoSuchElementException due) {
            // as due
        }
    }

    static void same(String what, String got, String want) {
        asked++;
        if (!got.equals(want)) {
            wrong++;
            int at = 0;
            while (at < got.length() && at < want.length() && got.charAt(at) == want.charAt(at)) {
                at++;
            }
            System.out.println(part + ": " + what + " is otherwise, from sign " + at + " on: ..."
                + got.substring(Math.max(0, at - 30), Math.min(got.length(), at + 30)));
        }
    }

    /** BLOCKS from one on. */
    static void reads(GrowHouse x, int from, int... due) {
        for (int i = 0; i < due.length; i++) {
            int block = from + i;
            is("read(" + block + ")", answer(() -> x.read(block)), due[i]);
        }
    }

    /** The words of a ROW, DISK by DISK. */
    static void row(GrowHouse x, int row, int... due) {
        for (int disk = 0; disk < due.length; disk++) {
            is("word(" + disk + ", " + row + ")", x.word(disk, row), due[disk]);
        }
    }

    /** What laid() tells, DISK by DISK. */
    static void laid(GrowHouse x, int... due) {
        for (int disk = 0; disk < due.length; disk++) {
            is("laid(" + disk + ")", x.laid(disk), due[disk]);
        }
    }

    /** All BAD words, as badAt() tells them. */
    static void bads(GrowHouse x, int... due) {
        is("badAt(NONE)", x.badAt(GrowHouse.NONE), due.length);
        for (int i = 0; i < due.length; i++) {
            is("badAt(" + i + ")", x.badAt(i), due[i]);
        }
    }

    /** All ROWS of SCRUB. */
    static void scrubs(GrowHouse x, int... due) {
        is("scrub(NONE)", x.scrub(GrowHouse.NONE), due.length);
        for (int i = 0; i < due.length; i++) {
            is("scrub(" + i + ")", x.scrub(i), due[i]);
        }
    }

    /** MISSING, if it throws. */
    static long answer(IntSupplier call) {
        try {
            return call.getAsInt();
        } catch (NoSuchElementException missing) {
            return MISSING;
        }
    }

    static void end(String test) {
        System.out.println(test + ": " + asked + " answers, " + wrong + " not as due");
        if (wrong != 0) {
            System.exit(1);
        }
    }

    /** Feeds a text, the rest of the last 24 bytes being cut off again. */
    static void feed(GrowHouse house, String text) {
        int before = house.count(16);
        for (int at = 0; at < text.length(); at += 24) {
            house.feed(eight(text, at), eight(text, at + 8), eight(text, at + 16));
        }
        house.end(before + text.length());
    }

    static int script(GrowHouse house, String text) {
        feed(house, text);
        return house.script();
    }

    /** What script() answers to a FAULT. */
    static int fault(int place, int kind) {
        return -2 - (8 * place + kind);
    }

    static long eight(String text, int at) {
        long bytes = 0;
        for (int i = at; i < at + 8; i++) {
            bytes = bytes << 8 | (i < text.length() ? text.charAt(i) & 255 : 0);
        }
        return bytes;
    }
}
