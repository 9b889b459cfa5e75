import java.util.NoSuchElementException;
import java.util.function.IntSupplier;

/** Counts and tells the answers that are not as due. */
final class Check {
    private static int wrong = 0;
    private static int asked = 0;
    private static String part = "";

    private Check() {
    }

    static void part(String name) {
        part = name;
    }

    static void is(String what, long got, long want) {
        asked++;
        if (got != want) {
            wrong++;
            System.out.println(part + ": " + what + " answered " + got + ", due is " + want);
        }
    }

    static void yes(String what, boolean got) {
        is(what, got ? 1 : 0, 1);
    }

    static void no(String what, boolean got) {
        is(what, got ? 1 : 0, 0);
    }

    static void missing(String what, IntSupplier call) {
        asked++;
        try {
            int got = call.getAsInt();
            wrong++;
            System.out.println(part + ": " + what + " answered " + got + ", due is NoSuchElementException");
        } catch (NoSuchElementException due) {
            // as due
        }
    }

    static void end(String test) {
        System.out.println(test + ": " + asked + " answers, " + wrong + " not as due");
        if (wrong != 0) {
            System.exit(1);
        }
    }

    /** Feeds a text, the rest of the last 24 bytes being cut off again. */
    static void feed(GrowHouse house, String text) {
        int before = house.count(16);
        for (int at = 0; at < text.length(); at += 24) {
            house.feed(eight(text, at), eight(text, at + 8), eight(text, at + 16));
        }
        house.end(before + text.length());
    }

    static int script(GrowHouse house, String text) {
        feed(house, text);
        return house.script();
    }

    /** What script() answers to a FAULT. */
    static int fault(int place, int kind) {
        return -2 - (8 * place + kind);
    }

    static long eight(String text, int at) {
        long bytes = 0;
        for (int i = at; i < at + 8; i++) {
            bytes = bytes << 8 | (i < text.length() ? text.charAt(i) & 255 : 0);
        }
        return bytes;
    }
}
