/** A part for each promise of the document: ordinary inputs, its edges, wrong inputs. */
public final class PromisesTest {
    private static final int NONE = GrowHouse.NONE;
    private static final int MIN = Integer.MIN_VALUE;
    private static final int MAX = Integer.MAX_VALUE;

    private PromisesTest() {
    }

    public static void main(String[] args) {
        newObject();
        make();
        set();
        grow();
        steps();
        stepsOfLastBatch();
        stepsOnLostDisk();
        crash();
        read();
        write();
        fill();
        lose();
        replace();
        replaceWhileGrown();
        bad();
        ask();
        tick();
        tickCosts();
        tickWhileGrown();
        served();
        servedKept();
        request();
        poke();
        scrub();
        scrubWhileGrown();
        repair();
        forecast();
        image();
        back();
        feed();
        end();
        script();
        scriptFaults();
        scriptRefusals();
        scriptAgain();
        laid();
        of();
        word();
        badAt();
        spoilt();
        exposed();
        batch();
        count();
        Check.end("PromisesTest");
    }

    private static void newObject() {
        Check.part("promise 1");
        GrowHouse x = new GrowHouse();
        int[] due = {4, 12, 36, 0, 0, 0, NONE, NONE, 0, 0, 0, 2, 2, 20, 0, 0, 0};
        for (int what = 0; what < due.length; what++) {
            Check.is("count(" + what + ")", x.count(what), due[what]);
        }
        for (int block = 0; block < 36; block++) {
            Check.is("read(" + block + ")", x.read(block), 0);
        }
        Check.missing("read(36)", () -> x.read(36));
        Check.no("back(0)", x.back(0));
        Check.is("NONE", GrowHouse.NONE, -1);
    }

    private static void make() {
        Check.part("promise 2");
        GrowHouse x = new GrowHouse();
        Check.is("make(3, 4)", x.make(3, 4), 8);
        Check.is("make(6, 40)", x.make(6, 40), 200);
        Check.is("count(2)", x.count(2), 200);
        int[][] others = {{2, 4}, {7, 4}, {3, 3}, {3, 41}, {MIN, 4}, {MAX, 4}, {3, MIN}, {3, MAX}, {0, 0}};
        x.write(3, 5);
        for (int[] other : others) {
            Check.is("make of others", x.make(other[0], other[1]), NONE);
        }
        Check.is("count(0) behind others", x.count(0), 6);
        Check.is("read(3) behind others", x.read(3), 5);

        x.set(0, 4);
        x.set(1, 9);
        x.set(2, 9);
        x.ask(false, 0, 0, 0);
        x.tick(5);
        x.ask(false, 0, 0, 0);
        x.image(0);
        x.bad(1, 1);
        x.grow();
        x.steps(3);
        x.lose(2);
        x.feed(1, 2, 3);
        Check.is("make(4, 5)", x.make(4, 5), 15);
        int[] due = {4, 5, 15, 0, 0, 0, NONE, NONE, 0, 0, 0, 2, 2, 20, 0, 0, 24};
        for (int what = 0; what < due.length; what++) {
            Check.is("count(" + what + ")", x.count(what), due[what]);
        }
        Check.no("back(0)", x.back(0));
        Check.missing("served(0, 0)", () -> x.served(0, 0));
        for (int disk = 0; disk < 4; disk++) {
            Check.is("laid(" + disk + ")", x.laid(disk), 0);
        }
        Check.is("read(3)", x.read(3), 0);
    }

    private static void set() {
        Check.part("promise 3");
        GrowHouse x = Sample.small();
        Check.is("set(0, 1)", x.set(0, 1), 2);
        Check.is("set(0, 4)", x.set(0, 4), 1);
        Check.is("set(0, 2)", x.set(0, 2), 4);
        Check.is("set(1, 0)", x.set(1, 0), 2);
        Check.is("set(1, 20)", x.set(1, 20), 0);
        Check.is("set(1, 2)", x.set(1, 2), 20);
        Check.is("set(2, 1)", x.set(2, 1), 20);
        Check.is("set(2, 60)", x.set(2, 60), 1);
        int[][] others = {{0, 0}, {0, 5}, {1, -1}, {1, 21}, {2, 0}, {2, 61}, {3, 1}, {-1, 1}, {0, MIN}, {0, MAX},
            {1, MIN}, {2, MAX}, {MIN, 1}, {MAX, 1}};
        for (int[] other : others) {
            Check.is("set(" + other[0] + ", " + other[1] + ")", x.set(other[0], other[1]), NONE);
        }
        Check.is("SIZE stays", x.count(11), 2);
        Check.is("LEAST stays", x.count(12), 2);
        Check.is("MOST stays", x.count(13), 60);

        x.grow();
        Check.is("set(0, 3), nothing MOVING", x.set(0, 3), 2);
        // one BATCH of all 3 STRIPES: 8 READ, 9 BACKUP, MARK, 12 WRITE, CHECKPOINT
        Check.is("batch(0)", x.batch(0), 31);
        x.set(0, 2);
        x.steps(1);
        Check.is("set(0, 3), MOVING", x.set(0, 3), NONE);
        Check.is("set(1, 3), MOVING", x.set(1, 3), 2);
        Check.is("set(2, 3), MOVING", x.set(2, 3), 60);
        x.crash();
        Check.is("set(0, 1) behind a CRASH", x.set(0, 1), 2);
        Check.is("batch(0)", x.batch(0), 12);
        x.steps(7);
        x.crash();
        Check.is("set(0, 2) behind a CRASH with a MARK", x.set(0, 2), NONE);
        x.steps(5);
        Check.is("set(0, 2) behind a CHECKPOINT", x.set(0, 2), 1);
    }

    private static void grow() {
        Check.part("promise 4");
        GrowHouse x = Sample.small();
        x.lose(0);
        Check.is("grow(), one LOST", x.grow(), NONE);
        x.replace();
        Check.is("grow()", x.grow(), 3);
        Check.is("grow(), GROWN", x.grow(), NONE);
        Check.row(x, 0, 10, 11, 1, 0);
        Check.is("laid(3)", x.laid(3), 0);

        x.make(6, 40);
        Check.is("grow() of 6", x.grow(), 34);
        x.steps(400);
        x.steps(400);
        Check.is("count(3)", x.count(3), 0);
        Check.is("count(0)", x.count(0), 7);
        Check.is("count(2)", x.count(2), 240);
        Check.is("grow() of 7", x.grow(), NONE);

        x.make(3, 6);
        int[] stripes = {4, 5, 5, 5};
        for (int i = 0; i < 4; i++) {
            Check.is("grow() of " + (3 + i), x.grow(), stripes[i]);
            x.fill(0, x.count(2), 7);
            while (x.count(3) == 1) {
                Check.is("steps(1)", x.steps(1), 1);
            }
        }
        Check.is("grow() of 7", x.grow(), NONE);
        Check.is("DISKS", x.count(0), 7);
        Check.reads(x, 0, 7, 8, 9, 10, 11, 12);
        Check.is("read(29)", x.read(29), 36);
        Check.is("read(30)", x.read(30), 0);
        Check.is("scrub(NONE)", x.scrub(NONE), 0);
    }

    private static void steps() {
        Check.part("promise 5");
        GrowHouse x = Sample.small();
        Check.is("steps(1), not GROWN", x.steps(1), NONE);
        x.grow();
        int[] others = {0, -1, 401, MIN, MAX};
        for (int n : others) {
            Check.is("steps(" + n + ")", x.steps(n), NONE);
        }
        Check.is("steps(13)", x.steps(13), 13);
        Check.row(x, 0, 10, 11, 1, 0);
        int[] disks = {0, 1, 2, 3, 3, 0, 1, 2};
        int[] words = {10, 11, 12, 10 ^ 11 ^ 12, 13, 14, 15, 13 ^ 14 ^ 15};
        for (int k = 0; k < 8; k++) {
            Check.is("WRITE", x.steps(1), 1);
            Check.is("its word", x.word(disks[k], k / 4), words[k]);
        }
        Check.is("BORDER", x.count(4), 0);
        Check.is("CHECKPOINT", x.steps(1), 1);
        Check.is("BORDER", x.count(4), 2);
        Check.is("steps(400)", x.steps(400), 7);
        Check.is("count(3)", x.count(3), 0);
        Check.is("steps(1), all NEW", x.steps(1), NONE);
        Check.reads(x, 0, 10, 11, 12, 13, 14, 15, 16, 17, 0, 0, 0, 0);
        Check.is("count(10)", x.count(10), 29);

        GrowHouse y = Sample.growing();
        y.bad(0, 1);
        y.bad(2, 1);
        Check.is("steps(400) till STUCK", y.steps(400), 2);
        Check.is("steps(1), STUCK", y.steps(1), 0);
        Check.is("count(10)", y.count(10), 2);
        Check.is("batch(1)", y.batch(1), 2);
        y.poke(2, 1, 12);
        Check.is("steps(3) behind poke", y.steps(3), 3);
        Check.is("steps(400)", y.steps(400), 24);
        Check.is("read(3), which was REBUILT", y.read(3), 13);
        Check.is("BAD words", y.count(8), 0);
    }

    private static void stepsOfLastBatch() {
        Check.part("promise 5, all NEW");
        GrowHouse x = Sample.growing();
        x.steps(22);
        // ROW 3 is cleared with the last CHECKPOINT, PARITY, BAD words and the LOST DISK too
        x.bad(1, 3);
        x.bad(3, 3);
        x.poke(3, 2, 5);
        Check.is("steps(6)", x.steps(6), 6);
        Check.is("BAD words", x.count(8), 2);
        Check.row(x, 3, 16, 17, 1, 0);
        x.lose(0);
        Check.is("steps(1)", x.steps(1), 1);
        Check.row(x, 2, 0, 16 ^ 17, 16, 17);
        Check.row(x, 3, 0, 0, 0, 0);
        Check.is("BAD words", x.count(8), 0);
        Check.is("replace()", x.replace(), 0);
        Check.reads(x, 6, 16, 17, 0, 0, 0, 0);

        // a BATCH of all 3 STRIPES is CRITICAL, its last word is behind the last BLOCK
        GrowHouse y = Sample.small();
        y.set(0, 4);
        y.grow();
        y.steps(18);
        Check.is("MARK", y.batch(7), 1);
        Check.is("steps(400)", y.steps(400), 13);
        Check.row(y, 2, 0, 16 ^ 17, 16, 17);
        Check.reads(y, 0, 10, 11, 12, 13, 14, 15, 16, 17, 0, 0, 0, 0);
    }

    private static void stepsOnLostDisk() {
        Check.part("promise 5, a DISK LOST");
        GrowHouse x = Sample.growing();
        x.bad(0, 1);
        x.steps(13);
        x.lose(0);
        Check.is("steps(9)", x.steps(9), 9);
        // nothing is laid on DISK 0, and what is BAD there stays BAD
        Check.row(x, 0, 10, 11, 12, 10 ^ 11 ^ 12);
        Check.row(x, 1, 13, 15, 13 ^ 14 ^ 15, 13);
        Check.is("laid(0)", x.laid(0), 5);
        Check.is("laid(3)", x.laid(3), 2);
        Check.is("badAt(0)", x.badAt(0), 100);
        Check.reads(x, 0, 10, 11, 12, 13, 14, 15, 16, 17);
        Check.is("replace()", x.replace(), 0);
        Check.is("word(0, 1)", x.word(0, 1), 14);
        Check.is("BAD words", x.count(8), 0);
    }

    private static void crash() {
        Check.part("promise 6");
        GrowHouse x = Sample.small();
        x.ask(false, 0, 0, 0);
        Check.no("crash(), not GROWN", x.crash());
        Check.is("REQUESTS stay", x.count(15), 1);
        x.grow();
        x.steps(12);
        x.poke(0, 0, 99);
        Check.is("read(0), MOVING", x.read(0), 10);
        Check.yes("crash(), no MARK", x.crash());
        Check.is("REQUESTS are none", x.count(15), 0);
        Check.is("next number", x.count(5), 1);
        Check.is("batch(1)", x.batch(1), 0);
        Check.is("read(0)", x.read(0), 99);
        Check.is("STEPS in all", x.count(10), 12);

        x.steps(13);
        x.poke(0, 0, 55);
        x.steps(3);
        Check.yes("crash(), MARK", x.crash());
        Check.is("batch(1)", x.batch(1), 13);
        Check.is("batch(7)", x.batch(7), 1);
        Check.is("read(0) of the BACKUP", x.read(0), 99);
        Check.yes("crash() again", x.crash());
        Check.is("steps(9)", x.steps(9), 9);
        Check.reads(x, 0, 99, 11, 12, 13, 14, 15, 16, 17);
        Check.row(x, 0, 99, 11, 12, 99 ^ 11 ^ 12);

        // the second BATCH is not CRITICAL: it begins anew in the midst of WRITE
        x.steps(4);
        Check.is("batch(7)", x.batch(7), 0);
        x.crash();
        Check.is("batch(1)", x.batch(1), 0);
        Check.is("BORDER", x.count(4), 2);
        Check.reads(x, 6, 16, 17);
        Check.is("steps(7)", x.steps(7), 7);
        Check.reads(x, 6, 16, 17);
        Check.no("crash(), all NEW", x.crash());
    }

    private static void read() {
        Check.part("promise 7");
        GrowHouse x = Sample.small();
        Check.reads(x, 0, 10, 11, 12, 13, 14, 15, 16, 17);
        int[] others = {-1, 8, MIN, MAX};
        for (int block : others) {
            Check.missing("read(" + block + ")", () -> x.read(block));
        }
        x.lose(1);
        Check.reads(x, 0, 10, 11, 12, 13, 14, 15, 16, 17);
        x.bad(0, 0);
        Check.missing("read(0)", () -> x.read(0));
        Check.missing("read(1)", () -> x.read(1));
        Check.reads(x, 2, 12, 13);
        // the PARITY that is lost harms no word that is READABLE
        x.bad(2, 1);
        Check.missing("read(2)", () -> x.read(2));
        Check.is("read(3)", x.read(3), 13);

        GrowHouse y = Sample.growing();
        y.steps(5);
        y.poke(0, 0, 77);
        Check.is("read(0), not all READ", y.read(0), 77);
        y.steps(1);
        Check.is("read(0), all READ", y.read(0), 10);
        y.poke(0, 3, 70);
        Check.is("read(6), not MOVING", y.read(6), 70);
        y.lose(0);
        y.bad(1, 0);
        Check.is("read(0), held", y.read(0), 10);
        Check.is("read(1), held", y.read(1), 11);
        y.crash();
        Check.missing("read(0)", () -> y.read(0));
    }

    private static void write() {
        Check.part("promise 8");
        GrowHouse x = Sample.small();
        Check.is("write(3, 40)", x.write(3, 40), 1);
        Check.row(x, 1, 40, 40 ^ 12, 12);
        int[] others = {-1, 8, MIN, MAX};
        for (int block : others) {
            Check.is("write(" + block + ", 1)", x.write(block, 1), NONE);
        }
        Check.is("write(7, MIN)", x.write(7, MIN), 1);
        Check.is("read(7)", x.read(7), MIN);

        // on a LOST DISK only PARITY is laid
        x.lose(0);
        Check.is("write(0, 20)", x.write(0, 20), 1);
        Check.row(x, 0, 10, 11, 20 ^ 11);
        Check.is("read(0)", x.read(0), 20);
        // PARITY on a LOST DISK: only the word is laid
        Check.is("write(4, 24)", x.write(4, 24), 1);
        Check.row(x, 2, 1, 24, 15);
        // the other word is LOST, so REBUILT
        Check.is("write(1, 21)", x.write(1, 21), 1);
        Check.row(x, 0, 10, 21, 20 ^ 21);
        Check.is("read(0)", x.read(0), 20);
        // PARITY is BAD, the other word LOST
        x.bad(2, 0);
        Check.is("write(1, 22)", x.write(1, 22), 0);
        Check.is("word(1, 0)", x.word(1, 0), 21);
        // of the LOST word the other one is READABLE: PARITY is good again
        Check.is("write(0, 30)", x.write(0, 30), 1);
        Check.row(x, 0, 10, 21, 30 ^ 21);
        Check.is("BAD words", x.count(8), 0);

        GrowHouse y = Sample.small();
        y.bad(0, 1);
        y.bad(1, 1);
        Check.is("write(3, 7), it and PARITY BAD", y.write(3, 7), 1);
        Check.is("BAD words", y.count(8), 0);
        y.bad(0, 1);
        y.bad(2, 1);
        Check.is("write(2, 7), the other can't be read", y.write(2, 7), 0);
        y.write(6, 1);
        y.bad(0, 3);
        Check.is("write(7, 9), the other one REBUILT", y.write(7, 9), 1);
        Check.yes("it stays BAD", !y.bad(0, 3));
        Check.is("read(6)", y.read(6), 1);

        GrowHouse z = Sample.growing();
        Check.is("write(0, 1)", z.write(0, 1), 1);
        z.steps(1);
        Check.is("write(0, 2), MOVING", z.write(0, 2), -3);
        Check.is("write(5, 2), MOVING", z.write(5, 2), -3);
        Check.is("write(6, 2)", z.write(6, 2), 1);
        Check.is("write(8, 2)", z.write(8, 2), NONE);
        z.steps(21);
        Check.is("write(5, 3) by NEW", z.write(5, 3), 1);
        Check.row(z, 1, 14, 3, 13 ^ 14 ^ 3, 13);
    }

    private static void fill() {
        Check.part("promise 9");
        GrowHouse x = new GrowHouse();
        x.make(3, 4);
        Check.is("fill(2, 3, 5)", x.fill(2, 3, 5), 3);
        Check.reads(x, 0, 0, 0, 5, 6, 7, 0, 0, 0);
        Check.is("fill(6, 2, MAX)", x.fill(6, 2, MAX), 2);
        Check.reads(x, 6, MAX, MIN);
        int[][] others = {{-1, 1}, {8, 1}, {0, 0}, {0, 9}, {7, 2}, {0, -1}, {MAX, 1}, {MIN, 1}, {0, MAX}, {0, MIN},
            {MAX, MAX}, {MIN, MIN}, {0, 201}};
        for (int[] other : others) {
            Check.is("fill(" + other[0] + ", " + other[1] + ", 1)", x.fill(other[0], other[1], 1), NONE);
        }
        x.make(6, 40);
        Check.is("fill(0, 200, 1)", x.fill(0, 200, 1), 200);
        x.grow();
        x.steps(400);
        x.steps(400);
        Check.is("fill(0, 201, 1)", x.fill(0, 201, 1), NONE);
        Check.is("fill(40, 200, 1)", x.fill(40, 200, 1), 200);

        GrowHouse y = Sample.growing();
        y.steps(1);
        Check.is("fill(4, 4, 50), some MOVING", y.fill(4, 4, 50), 2);
        Check.reads(y, 4, 14, 15, 52, 53);
        y.crash();
        y.bad(0, 1);
        y.bad(2, 1);
        Check.is("fill(0, 8, 60), some can't be", y.fill(0, 8, 60), 6);
        Check.reads(y, 4, 64, 65, 66, 67);
    }

    private static void lose() {
        Check.part("promise 10");
        GrowHouse x = Sample.small();
        int[] others = {-1, 3, MIN, MAX};
        for (int disk : others) {
            Check.no("lose(" + disk + ")", x.lose(disk));
        }
        Check.yes("lose(2)", x.lose(2));
        Check.is("count(7)", x.count(7), 2);
        Check.no("lose(2) again", x.lose(2));
        Check.no("lose(0), one is LOST", x.lose(0));
        x.replace();
        Check.yes("lose(0)", x.lose(0));
        x.replace();
        x.grow();
        Check.yes("lose(3), GROWN", x.lose(3));
        Check.is("count(7)", x.count(7), 3);
        Check.reads(x, 0, 10, 11, 12, 13, 14, 15, 16, 17);
    }

    private static void replace() {
        Check.part("promise 11");
        GrowHouse x = Sample.small();
        Check.is("replace(), none LOST", x.replace(), NONE);
        x.bad(0, 2);
        x.lose(0);
        x.write(0, 40);
        x.bad(1, 1);
        x.bad(2, 3);
        Check.is("replace()", x.replace(), 2);
        Check.row(x, 0, 40, 11, 40 ^ 11);
        Check.row(x, 1, 0, 1, 12);
        Check.row(x, 2, 14 ^ 15, 14, 15);
        Check.row(x, 3, 0, 17, 1);
        Check.is("BAD words", x.count(8), 4);
        Check.is("badAt(0)", x.badAt(0), 100);
        Check.is("badAt(1)", x.badAt(1), 101);
        Check.is("badAt(2)", x.badAt(2), 300);
        Check.is("badAt(3)", x.badAt(3), 302);
        Check.is("count(7)", x.count(7), NONE);
        Check.is("replace() again", x.replace(), NONE);
    }

    private static void replaceWhileGrown() {
        Check.part("promise 11, GROWN");
        GrowHouse x = Sample.growing();
        x.steps(22);
        x.poke(3, 2, 9);
        x.bad(3, 3);
        x.lose(3);
        x.steps(1);
        Check.is("replace(), MOVING", x.replace(), NONE);
        x.crash();
        // by NEW below BORDER (2), 0 from there on: DISK n has no word of OLD
        Check.is("replace()", x.replace(), 0);
        Check.row(x, 0, 10, 11, 12, 10 ^ 11 ^ 12);
        Check.row(x, 1, 14, 15, 13 ^ 14 ^ 15, 13);
        Check.row(x, 2, 1, 14, 15, 0);
        Check.row(x, 3, 16, 17, 1, 0);
        Check.is("BAD words", x.count(8), 0);

        x.poke(3, 2, 9);
        x.lose(1);
        x.bad(3, 3);
        x.bad(3, 1);
        // BAD words of DISK n count below BORDER alone
        Check.is("replace()", x.replace(), 1);
        Check.row(x, 0, 10, 11, 12, 10 ^ 11 ^ 12);
        Check.row(x, 1, 14, 0, 13 ^ 14 ^ 15, 13);
        Check.row(x, 2, 1, 1 ^ 15, 15, 9);
        Check.row(x, 3, 16, 17, 1, 0);
        Check.is("laid(1)", x.laid(1), 5 + 2);
    }

    private static void bad() {
        Check.part("promise 12");
        GrowHouse x = Sample.small();
        int[][] others = {{-1, 0}, {3, 0}, {0, -1}, {0, 4}, {MIN, 0}, {MAX, 0}, {0, MIN}, {0, MAX}};
        for (int[] other : others) {
            Check.no("bad(" + other[0] + ", " + other[1] + ")", x.bad(other[0], other[1]));
        }
        Check.yes("bad(2, 3)", x.bad(2, 3));
        Check.no("bad(2, 3) again", x.bad(2, 3));
        Check.is("word(2, 3)", x.word(2, 3), 1);
        x.lose(0);
        Check.no("bad(0, 0), LOST", x.bad(0, 0));
        Check.yes("bad(1, 0)", x.bad(1, 0));
        Check.is("BAD words", x.count(8), 2);
        x.replace();
        x.grow();
        Check.yes("bad(3, 0)", x.bad(3, 0));
        Check.no("bad(4, 0)", x.bad(4, 0));
    }

    private static void ask() {
        Check.part("promise 13");
        GrowHouse x = Sample.small();
        int[][] others = {{-1, 0}, {8, 0}, {0, -1}, {0, 10}, {MIN, 0}, {MAX, 0}, {0, MIN}, {0, MAX}};
        for (int[] other : others) {
            Check.is("ask of others", x.ask(false, other[0], 0, other[1]), NONE);
            Check.is("ask of others", x.ask(true, other[0], 0, other[1]), NONE);
        }
        for (int i = 0; i < 20; i++) {
            Check.is("ask", x.ask(i % 2 == 0, i % 8, i, i % 10), i);
        }
        Check.is("ask, 20 there are", x.ask(false, 0, 0, 0), NONE);
        Check.is("REQUESTS", x.count(15), 20);
        x.tick(1);
        Check.is("no IOS for the first", x.count(15), 20);
        x.tick(2);
        Check.is("ask behind a TICK", x.ask(false, 0, 0, 0), 20);
        Check.is("next number", x.count(5), 21);
        x.make(3, 4);
        Check.is("ask behind make()", x.ask(false, 0, 0, 0), 0);
    }

    private static void tick() {
        Check.part("promise 14");
        GrowHouse x = Sample.small();
        int[] others = {0, -1, 61, MIN, MAX};
        for (int ios : others) {
            Check.is("tick(" + ios + ")", x.tick(ios), NONE);
        }
        Check.is("TICKS", x.count(9), 0);
        Check.is("tick(60), no REQUEST", x.tick(60), 0);
        Check.is("TICKS", x.count(9), 1);
        x.ask(true, 3, 50, 5);
        x.ask(false, 3, 0, 4);
        x.ask(false, 3, 0, 5);
        x.ask(true, 3, 51, 0);
        // 51 is written, read, 50 written, read
        Check.is("tick(6)", x.tick(6), 4);
        Check.is("served(3, 1)", x.served(3, 1), 51);
        Check.is("served(1, 1)", x.served(1, 1), 51);
        Check.is("served(0, 1)", x.served(0, 1), 50);
        Check.is("served(2, 1)", x.served(2, 1), 50);
        Check.is("read(3)", x.read(3), 50);
    }

    private static void tickCosts() {
        Check.part("promise 14, costs");
        GrowHouse x = new GrowHouse();
        x.make(5, 4);
        x.fill(0, 16, 1);
        x.lose(0);
        // ROW 0: PARITY on DISK 4, BLOCK 0 on DISK 0: REBUILT by 4 words
        x.ask(false, 0, 0, 0);
        x.ask(false, 1, 0, 1);
        Check.is("tick(3), 4 are due", x.tick(3), 0);
        Check.is("tick(4)", x.tick(4), 1);
        Check.is("tick(1)", x.tick(1), 1);
        Check.is("served(0, 1)", x.served(0, 1), 1);
        // a write costs 2, also if others are REBUILT for it
        x.ask(true, 1, 9, 0);
        Check.is("tick(1)", x.tick(1), 0);
        Check.is("tick(2)", x.tick(2), 1);
        Check.is("read(0)", x.read(0), 1);
        // what can't be read, WRITTEN costs 1
        x.bad(1, 0);
        x.ask(false, 0, 0, 0);
        x.ask(true, 2, 9, 0);
        x.ask(false, 2, 0, 0);
        Check.is("tick(3)", x.tick(3), 3);
        Check.is("a read that can't be", x.served(3, 0), 2);
        Check.is("a write that can't be", x.served(4, 0), 2);
        Check.is("a read", x.served(5, 0), 0);
        Check.is("its word", x.served(5, 1), 3);
        // the next one's cost is not left: none goes ahead of it
        x.ask(true, 4, 9, 0);
        x.ask(false, 4, 0, 1);
        Check.is("tick(1)", x.tick(1), 0);
        Check.is("TICKS", x.count(9), 7);
    }

    private static void tickWhileGrown() {
        Check.part("promise 14, GROWN");
        GrowHouse x = Sample.growing();
        x.set(1, 3);
        x.ask(false, 0, 0, 0);
        Check.is("tick(3), all kept", x.tick(3), 0);
        Check.is("batch(1)", x.batch(1), 3);
        Check.is("tick(2), all kept", x.tick(2), 0);
        Check.is("batch(1)", x.batch(1), 5);
        Check.is("tick(5)", x.tick(5), 1);
        Check.is("batch(1), 3 kept and 1 left", x.batch(1), 9);
        x.set(2, 2);
        x.tick(60);
        Check.is("batch(1), MOST 2", x.batch(1), 11);
        // a read of what is held costs 1, a write of it stays
        x.lose(0);
        x.ask(true, 0, 5, 0);
        x.ask(false, 0, 0, 1);
        x.ask(true, 7, 70, 2);
        x.set(1, 0);
        Check.is("tick(3)", x.tick(3), 2);
        Check.is("batch(1), none left", x.batch(1), 11);
        Check.is("served(2, 1)", x.served(2, 1), 10);
        Check.is("request(0, 0)", x.request(0, 0), 1);
        Check.is("read(7)", x.read(7), 70);
        x.set(2, 60);
        Check.is("tick(11)", x.tick(11), 0);
        Check.is("BORDER", x.count(4), 2);
        Check.is("tick(2), the write that stayed", x.tick(2), 1);
        Check.is("read(0)", x.read(0), 5);
        Check.is("tick(60)", x.tick(60), 0);
        Check.is("all NEW", x.count(3), 0);
        Check.is("STEPS in all", x.count(10), 29);
        // not GROWN: none is kept
        x.ask(false, 2, 0, 0);
        x.set(1, 20);
        Check.is("tick(1)", x.tick(1), 1);
    }

    private static void served() {
        Check.part("promise 15");
        GrowHouse x = Sample.small();
        x.bad(0, 0);
        x.bad(1, 0);
        x.ask(false, 2, 99, 0);
        x.ask(true, 3, 44, 0);
        x.ask(false, 0, 0, 0);
        x.ask(true, 1, 5, 0);
        x.ask(false, 4, 0, 9);
        x.tick(1);
        x.tick(4);
        int[][] due = {{0, 12, 1}, {1, 44, 2}, {2, 0, 2}, {2, 0, 2}};
        for (int number = 0; number < 4; number++) {
            for (int what = 0; what < 3; what++) {
                Check.is("served(" + number + ", " + what + ")", x.served(number, what), due[number][what]);
            }
        }
        Check.missing("served(4, 0), not served", () -> x.served(4, 0));
        int[][] others = {{5, 0}, {-1, 0}, {0, -1}, {0, 3}, {MIN, 0}, {MAX, 0}, {0, MIN}, {0, MAX}};
        for (int[] other : others) {
            Check.missing("served of others", () -> x.served(other[0], other[1]));
        }
    }

    private static void servedKept() {
        Check.part("promise 15, the latest 30");
        GrowHouse x = Sample.small();
        for (int i = 0; i < 31; i++) {
            x.ask(false, i % 8, 0, 0);
            x.tick(1);
            Check.is("served(" + i + ", 2)", x.served(i, 2), i + 1);
        }
        Check.missing("served(0, 0), not kept", () -> x.served(0, 0));
        for (int i = 1; i < 31; i++) {
            Check.is("served(" + i + ", 1)", x.served(i, 1), 10 + i % 8);
        }
        // what was SERVED is no part of an IMAGE
        x.image(0);
        x.ask(true, 0, 3, 0);
        x.tick(2);
        x.back(0);
        Check.is("count(5)", x.count(5), 31);
        Check.is("served(31, 1)", x.served(31, 1), 3);
        Check.missing("served(1, 0), not kept", () -> x.served(1, 0));
    }

    private static void request() {
        Check.part("promise 16");
        GrowHouse x = Sample.small();
        Check.is("request(NONE, 0)", x.request(NONE, 0), 0);
        Check.is("request(0, 0)", x.request(0, 0), NONE);
        x.ask(false, 1, 0, 5);
        x.ask(true, 2, 9, 3);
        x.ask(false, 3, 0, 5);
        x.ask(true, 4, 9, 9);
        x.ask(false, 5, 0, 0);
        x.ask(true, 6, 9, 3);
        int[][] due = {{4, 5, 0, 0}, {1, 2, 3, 1}, {5, 6, 3, 1}, {0, 1, 5, 0}, {2, 3, 5, 0}, {3, 4, 9, 1}};
        for (int i = 0; i < 6; i++) {
            for (int what = 0; what < 4; what++) {
                Check.is("request(" + i + ", " + what + ")", x.request(i, what), due[i][what]);
            }
            Check.is("request(" + i + ", 4)", x.request(i, 4), NONE);
            Check.is("request(" + i + ", -1)", x.request(i, -1), NONE);
        }
        Check.is("request(NONE, 0)", x.request(NONE, 0), 6);
        int[] others = {6, -2, MIN, MAX};
        for (int i : others) {
            Check.is("request(" + i + ", 0)", x.request(i, 0), NONE);
        }
        Check.is("request(0, MAX)", x.request(0, MAX), NONE);
        Check.is("request(0, MIN)", x.request(0, MIN), NONE);
        x.tick(3);
        Check.is("request(0, 0) behind a TICK", x.request(0, 0), 5);
    }

    private static void poke() {
        Check.part("promise 17");
        GrowHouse x = Sample.small();
        int[][] others = {{-1, 0}, {3, 0}, {0, -1}, {0, 4}, {MIN, 0}, {MAX, 0}, {0, MIN}, {0, MAX}};
        for (int[] other : others) {
            Check.no("poke of others", x.poke(other[0], other[1], 1));
        }
        x.bad(0, 0);
        Check.yes("poke(0, 0, 90)", x.poke(0, 0, 90));
        Check.row(x, 0, 90, 11, 1);
        Check.is("BAD words", x.count(8), 0);
        Check.is("read(0)", x.read(0), 90);
        Check.is("laid(0)", x.laid(0), 5);
        x.lose(1);
        Check.no("poke(1, 0, 1), LOST", x.poke(1, 0, 1));
        Check.is("read(1), REBUILT", x.read(1), 90 ^ 1);
    }

    private static void scrub() {
        Check.part("promise 18");
        GrowHouse x = Sample.small();
        Check.is("scrub(NONE)", x.scrub(NONE), 0);
        Check.is("scrub(0)", x.scrub(0), NONE);
        x.poke(0, 1, 0);
        x.poke(2, 3, 0);
        x.poke(1, 0, 0);
        int[] due = {0, 1, 3};
        for (int i = 0; i < 3; i++) {
            Check.is("scrub(" + i + ")", x.scrub(i), due[i]);
        }
        Check.is("scrub(NONE)", x.scrub(NONE), 3);
        int[] others = {3, -2, MIN, MAX};
        for (int i : others) {
            Check.is("scrub(" + i + ")", x.scrub(i), NONE);
        }
        x.bad(2, 1);
        Check.is("scrub(1), a word of ROW 1 BAD", x.scrub(1), 3);
        x.lose(0);
        Check.is("scrub(NONE), a DISK LOST", x.scrub(NONE), 0);
    }

    private static void scrubWhileGrown() {
        Check.part("promise 18, GROWN");
        GrowHouse x = Sample.growing();
        x.poke(3, 0, 5);
        Check.is("scrub(NONE), DISK n is not of OLD", x.scrub(NONE), 0);
        x.bad(3, 0);
        x.poke(0, 0, 5);
        Check.is("scrub(0)", x.scrub(0), 0);
        x.poke(0, 0, 10);
        x.steps(14);
        x.poke(1, 1, 77);
        x.poke(1, 2, 77);
        // ROWS 0 and 1 are of the BATCH that is MOVING
        Check.is("scrub(0)", x.scrub(0), 2);
        Check.is("scrub(NONE)", x.scrub(NONE), 1);
        x.steps(8);
        Check.is("scrub(NONE) behind the CHECKPOINT", x.scrub(NONE), 1);
        x.poke(3, 1, 0);
        Check.is("scrub(0) by NEW", x.scrub(0), 1);
        x.poke(3, 1, 13);
        x.poke(1, 2, 14);
        Check.is("scrub(NONE)", x.scrub(NONE), 0);
        // a CRASH in the midst of a WRITE that is not CRITICAL leaves ROW 2 half laid
        x.steps(3);
        Check.is("scrub(NONE), MOVING", x.scrub(NONE), 0);
        x.crash();
        Check.is("scrub(0) behind a CRASH", x.scrub(0), 2);
    }

    private static void repair() {
        Check.part("promise 19");
        GrowHouse x = Sample.small();
        Check.is("repair()", x.repair(), 0);
        x.poke(0, 1, 50);
        x.poke(2, 3, 0);
        x.poke(1, 2, 0);
        x.bad(2, 2);
        Check.is("repair()", x.repair(), 2);
        Check.row(x, 1, 50, 50 ^ 12, 12);
        Check.row(x, 2, 1, 0, 15);
        Check.row(x, 3, 16, 17, 16 ^ 17);
        Check.is("laid(1)", x.laid(1), 6);
        Check.is("laid(2)", x.laid(2), 7);
        Check.is("laid(0)", x.laid(0), 5);
        Check.is("scrub(NONE)", x.scrub(NONE), 0);

        GrowHouse y = Sample.growing();
        y.steps(22);
        y.poke(3, 1, 0);
        y.poke(0, 3, 0);
        Check.is("repair(), GROWN", y.repair(), 2);
        Check.row(y, 1, 14, 15, 14 ^ 15, 0);
        Check.row(y, 3, 0, 17, 17, 0);
        y.poke(0, 2, 0);
        y.steps(1);
        Check.is("repair(), MOVING", y.repair(), 0);
    }

    private static void forecast() {
        Check.part("promise 20");
        GrowHouse x = Sample.small();
        Check.is("forecast(10), not GROWN", x.forecast(10), NONE);
        x.grow();
        int[] others = {0, -1, 61, MIN, MAX};
        for (int ios : others) {
            Check.is("forecast(" + ios + ")", x.forecast(ios), NONE);
        }
        // 29 STEPS
        Check.is("forecast(1)", x.forecast(1), 29);
        Check.is("forecast(29), MOST 20", x.forecast(29), 2);
        Check.is("forecast(15)", x.forecast(15), 2);
        Check.is("forecast(14)", x.forecast(14), 3);
        x.set(2, 60);
        Check.is("forecast(29)", x.forecast(29), 1);
        x.set(1, 0);
        x.ask(true, 7, 5, 0);
        Check.is("forecast(29), a write ahead", x.forecast(29), 2);
        Check.is("forecast(31)", x.forecast(31), 1);
        // a write's cost is never left: it stays, all IOS go to STEPS
        Check.is("forecast(1)", x.forecast(1), 29);
        Check.is("nothing is done", x.count(10), 0);
        Check.is("TICKS", x.count(9), 0);
        Check.is("REQUESTS", x.count(15), 1);
        Check.is("read(7)", x.read(7), 17);
        Check.missing("served(0, 0)", () -> x.served(0, 0));

        x.bad(0, 3);
        x.bad(1, 3);
        Check.is("forecast(5), STUCK: neither 6 nor 7 can be read, 7 not WRITTEN", x.forecast(5), -3);
        x.bad(2, 3);
        Check.is("forecast(60), STUCK", x.forecast(60), -3);
        x.poke(0, 3, 1);
        Check.is("forecast(60), 7 is WRITTEN ahead of its READ", x.forecast(60), 1);

        GrowHouse y = new GrowHouse();
        y.make(6, 40);
        y.grow();
        int left = y.batch(3);
        y.steps(400);
        Check.is("forecast(1)", y.forecast(1), left - 400);
        y.make(6, 40);
        y.grow();
        y.steps(left - 401);
        Check.is("forecast(1), 401 STEPS", y.forecast(1), -3);
        y.steps(1);
        Check.is("forecast(1), 400 STEPS", y.forecast(1), 400);
    }

    private static void image() {
        Check.part("promise 21");
        GrowHouse x = Sample.small();
        int[] others = {-1, 2, MIN, MAX};
        for (int i : others) {
            Check.no("image(" + i + ")", x.image(i));
        }
        Check.no("back(0)", x.back(0));
        Check.yes("image(0)", x.image(0));
        Check.no("back(1)", x.back(1));
        Check.yes("image(1)", x.image(1));
        x.write(0, 1);
        Check.yes("image(1) anew", x.image(1));
        x.write(0, 2);
        x.back(1);
        Check.is("read(0)", x.read(0), 1);
        x.back(0);
        Check.is("read(0)", x.read(0), 10);
    }

    private static void back() {
        Check.part("promise 22");
        GrowHouse x = Sample.small();
        x.set(0, 1);
        x.set(1, 4);
        x.set(2, 9);
        x.grow();
        x.steps(7);
        x.bad(3, 3);
        x.lose(0);
        x.ask(true, 7, 1, 3);
        x.feed(1, 2, 3);
        x.image(0);
        int[] whats = new int[16];
        for (int what = 0; what < 16; what++) {
            whats[what] = x.count(what);
        }
        Check.is("batch(7)", x.batch(7), 1);
        x.image(1);
        x.steps(400);
        x.replace();
        x.tick(60);
        x.set(0, 4);
        x.set(1, 1);
        x.set(2, 1);
        x.fill(0, 12, 60);
        x.grow();
        Check.is("DISKS", x.count(0), 5);
        x.steps(30);
        x.feed(1, 2, 3);
        Check.yes("back(0)", x.back(0));
        for (int what = 0; what < 16; what++) {
            Check.is("count(" + what + ")", x.count(what), whats[what]);
        }
        Check.is("the TAPE stays", x.count(16), 48);
        Check.is("batch(7)", x.batch(7), 1);
        Check.is("batch(1)", x.batch(1), 7);
        Check.is("laid(3)", x.laid(3), 0);
        Check.is("request(0, 1)", x.request(0, 1), 7);
        Check.reads(x, 0, 10, 11, 12, 13, 14, 15, 16, 17);
        // an IMAGE is not altered by what is done behind back()
        x.steps(400);
        x.write(0, 5);
        Check.yes("back(0) again", x.back(0));
        Check.is("batch(1)", x.batch(1), 7);
        Check.is("read(0)", x.read(0), 10);
        int[] others = {-1, 2, MIN, MAX};
        for (int i : others) {
            Check.no("back(" + i + ")", x.back(i));
        }
        x.make(3, 4);
        Check.no("back(0) behind make()", x.back(0));
        Check.no("back(1) behind make()", x.back(1));
    }

    private static void feed() {
        Check.part("promise 23");
        GrowHouse x = new GrowHouse();
        for (int i = 1; i <= 11; i++) {
            Check.is("feed", x.feed(i, 0, -1), 24 * i);
        }
        Check.is("feed, 264 there are", x.feed(0, 0, 0), NONE);
        Check.is("count(16)", x.count(16), 264);
        x.end(241);
        Check.is("feed, it would have 265", x.feed(0, 0, 0), NONE);
        Check.is("count(16)", x.count(16), 241);
        x.end(240);
        Check.is("feed, it has 264", x.feed(0, 0, 0), 264);
        // the highest byte of each comes first: a, b, c in turn
        x.end(0);
        x.feed(Check.eight("write 3 ", 0), Check.eight("20;bad 1", 0), Check.eight(" 2;grow;", 0));
        Check.is("script()", x.script(), 3);
        Check.is("read(3)", x.read(3), 20);
        Check.is("badAt(0)", x.badAt(0), 201);
    }

    private static void end() {
        Check.part("promise 24");
        GrowHouse x = new GrowHouse();
        Check.is("end(0)", x.end(0), 0);
        Check.is("end(1), empty", x.end(1), NONE);
        x.feed(Check.eight("grow;cra", 0), Check.eight("sh;lose ", 0), Check.eight("0;;;;;;;", 0));
        int[] others = {25, -1, MIN, MAX};
        for (int n : others) {
            Check.is("end(" + n + ")", x.end(n), NONE);
        }
        Check.is("count(16)", x.count(16), 24);
        Check.is("end(24)", x.end(24), 24);
        Check.is("end(5)", x.end(5), 5);
        Check.is("end(6)", x.end(6), NONE);
        Check.is("count(16)", x.count(16), 5);
        Check.is("script()", x.script(), 1);
    }

    private static void script() {
        Check.part("promise 25");
        GrowHouse x = Sample.small();
        Check.is("an empty SCRIPT", x.script(), 0);
        Check.is("blanks", Check.script(x, "   "), 0);
        Check.is("all DEEDS",
            Check.script(x, "grow;steps 3;crash;image 0;lose 1;replace;write 0 90;fill 6 2 50;bad 0 1;"), 9);
        Check.is("the TAPE is empty", x.count(16), 0);
        Check.reads(x, 0, 90, 11, 12, 13, 14, 15, 50, 51);
        Check.is("badAt(0)", x.badAt(0), 100);
        x.poke(0, 2, 77);
        Check.is("repair, tick", Check.script(x, " repair ;tick5; "), 2);
        Check.is("word(0, 2)", x.word(0, 2), 14 ^ 15);
        Check.is("TICKS", x.count(9), 1);
        Check.is("STEPS", x.count(10), 8);
        Check.is("back", Check.script(x, "back 0;"), 1);
        Check.is("read(0)", x.read(0), 10);
        Check.is("leading zeros", Check.script(x, "write 0007 0009;"), 1);
        Check.is("read(7)", x.read(7), 9);
        x.ask(false, 7, 0, 0);
        Check.is("tick", Check.script(x, "tick 3;"), 1);
        Check.is("served(0, 1)", x.served(0, 1), 9);

        StringBuilder text = new StringBuilder("write 0 123;");
        while (text.length() < 240) {
            text.append(' ');
        }
        Check.is("240 bytes", Check.script(x, "crash;" + text.substring(0, 234)), 2);
        Check.is("read(0)", x.read(0), 123);
        Check.feed(x, text + ";");
        Check.is("241 bytes", x.script(), NONE);
    }

    private static void scriptFaults() {
        Check.part("promise 25, FAULTS");
        GrowHouse x = Sample.small();
        String[] texts = {
            "x;", "Grow;", ";", "]", "[", "grow", "grow ", "growx;", "grow;grow 5;", "grow;;", "5;", "steps;",
            "steps ;", "steps", "steps 12345;", "steps 12345", "steps 99999999999999999999;", "steps 00001;",
            "grow 12345;", "write 1;", "write 1 23456;", "fill 1 2;", "fill 1 2 3 4;", "again 21[];", "again 20[]",
            "again 20;", "again[];", "again 12345[];", "again 0[grow];", "again 1[grow;", "again 1[;];", "again 1[]];",
            "again 1[again 1[again 1[again 1[];];];];", "again 1[again 1[again 1[ again", "again 1[again 1[again 1[];];];x",
            "grow\t;", "grow;\u00e9", "grow\0;", "gr ow;", "steps -1;", "again 021[];", "done;", "steps 1 2;", "againgrow;"};
        int[][] due = {
            {0, 1}, {0, 1}, {0, 1}, {0, 1}, {0, 1}, {4, 1}, {5, 1}, {0, 1}, {10, 1}, {5, 1}, {0, 1}, {5, 1},
            {6, 1}, {5, 1}, {6, 2}, {6, 2}, {6, 2}, {6, 2},
            {5, 1}, {7, 1}, {8, 2}, {8, 1}, {11, 1}, {6, 2}, {10, 1},
            {8, 1}, {5, 1}, {6, 2}, {12, 1}, {13, 1}, {8, 1}, {9, 1},
            {24, 3}, {25, 3}, {30, 1},
            {4, 1}, {5, 1}, {4, 1}, {0, 1}, {6, 1}, {6, 2}, {0, 1}, {8, 1}, {0, 1}};
        for (int i = 0; i < texts.length; i++) {
            int got = Check.script(x, texts[i]);
            Check.is("script of " + texts[i], got, Check.fault(due[i][0], due[i][1]));
            Check.is("the TAPE is empty", x.count(16), 0);
        }
        Check.is("nothing is done", x.count(3), 0);
        Check.is("a FAULT behind DEEDS", Check.script(x, "grow;steps 3;write 0 1;oh"), Check.fault(23, 1));
        Check.is("nothing is done", x.count(3), 0);
    }

    private static void scriptRefusals() {
        Check.part("promise 25, refused");
        GrowHouse x = Sample.small();
        Check.is("crash", Check.script(x, "write 0 1;crash;write 0 2;"), 1);
        Check.is("read(0)", x.read(0), 1);
        String[] first = {"steps 1;", "replace;", "tick 0;", "tick 61;", "lose 3;", "write 8 1;", "fill 0 9 1;", "fill 0 0 1;",
            "bad 3 0;", "image 2;", "back 0;", "back 2;"};
        for (String deed : first) {
            Check.is(deed, Check.script(x, deed + "write 0 3;"), 0);
        }
        x.bad(0, 1);
        x.bad(2, 1);
        Check.is("write that can't be", Check.script(x, "write 2 1;write 0 3;"), 0);
        Check.is("fill of none", Check.script(x, "fill 2 2 1;write 0 3;"), 2);
        Check.is("read(0)", x.read(0), 3);
        Check.is("bad that is", Check.script(x, "bad 0 1;"), 0);
        Check.is("grow, STUCK", Check.script(x, "repair;grow;steps 9;steps 9;tick 5;grow;steps 1;"), 5);
        Check.is("write, MOVING", Check.script(x, "steps 1;write 0 5;steps 1;"), 1);
        Check.is("steps 401", Check.script(x, "steps 400;steps 401;"), 1);
        Check.is("steps 0", Check.script(x, "steps 0;"), 0);
        Check.is("replace, MOVING", Check.script(x, "lose 0;replace;"), 1);
        Check.is("lose", Check.script(x, "lose 1;"), 0);
        Check.is("replace", Check.script(x, "crash;replace;image 1;back 1;back 0;"), 4);
    }

    private static void scriptAgain() {
        Check.part("promise 25, again");
        GrowHouse x = Sample.small();
        Check.is("again 3", Check.script(x, "again 3[tick 1;];"), 3);
        Check.is("TICKS", x.count(9), 3);
        Check.is("again 0", Check.script(x, "again 0[tick 1;again 5[tick 1;];];tick 1;"), 1);
        Check.is("TICKS", x.count(9), 4);
        Check.is("three open", Check.script(x, "again 2 [ tick 1 ; again 3 [ tick 1 ; again 4 [ tick 1 ; ] ; ] ; ] ; tick 1 ;"),
            2 * (1 + 3 * (1 + 4)) + 1);
        Check.is("TICKS", x.count(9), 4 + 33);
        Check.is("200 DEEDS", Check.script(x, "again 20[again 10[tick 1;];];"), 200);
        Check.is("TICKS", x.count(9), 237);
        Check.is("no more", Check.script(x, "again 20[again 20[tick 1;];];"), 200);
        Check.is("TICKS", x.count(9), 437);
        Check.is("200 and one refused", Check.script(x, "again 20[again 10[tick 1;];];crash;"), 200);
        Check.is("a refusal ends all", Check.script(x, "again 5[tick 1;lose 0;tick 1;];tick 1;"), 4);
        Check.is("TICKS", x.count(9), 437 + 200 + 3);
        Check.is("side by side", Check.script(x, "again 2[];again 2[again 2[];again 3[tick 1;];];"), 6);
        StringBuilder text = new StringBuilder("again20[again20[");
        for (int i = 0; i < 21; i++) {
            text.append("again20[];");
        }
        Check.is("many turns of nothing", Check.script(x, text + "];];tick1;"), 1);
    }

    private static void laid() {
        Check.part("promise 26");
        GrowHouse x = Sample.small();
        int[] others = {-1, 3, MIN, MAX};
        for (int disk : others) {
            Check.is("laid(" + disk + ")", x.laid(disk), NONE);
        }
        int[] filled = {5, 5, 6};
        for (int disk = 0; disk < 3; disk++) {
            Check.is("laid(" + disk + ")", x.laid(disk), filled[disk]);
        }
        x.poke(0, 0, 5);
        x.lose(1);
        x.write(1, 7);
        x.replace();
        Check.is("laid(0)", x.laid(0), 5);
        Check.is("laid(1)", x.laid(1), 5);
        Check.is("laid(2)", x.laid(2), 7);
        x.grow();
        Check.is("laid(3)", x.laid(3), 0);
        x.lose(3);
        x.steps(400);
        // a word on each DISK in each of 3 STRIPES, nothing on the LOST one, none as all is NEW
        int[] grown = {8, 8, 10, 0};
        for (int disk = 0; disk < 4; disk++) {
            Check.is("laid(" + disk + ")", x.laid(disk), grown[disk]);
        }
        x.replace();
        x.ask(true, 11, 5, 0);
        x.tick(2);
        // ROW 3: PARITY on DISK 0, BLOCKS 9, 10, 11 on DISKS 1, 2, 3
        Check.is("laid(0)", x.laid(0), 9);
        Check.is("laid(3)", x.laid(3), 1);
    }

    private static void of() {
        Check.part("promise 27");
        GrowHouse x = Sample.growing();
        int[] disks = {0, 1, 2, 0, 1, 2, 0, 1};
        for (int block = 0; block < 8; block++) {
            Check.is("of(" + block + ", 0)", x.of(block, 0), 0);
            Check.is("of(" + block + ", 1)", x.of(block, 1), disks[block]);
            Check.is("of(" + block + ", 2)", x.of(block, 2), block / 2);
            Check.is("of(" + block + ", 3)", x.of(block, 3), 0);
            Check.is("of(" + block + ", 4)", x.of(block, 4), 1);
        }
        int[][] others = {{-1, 0}, {8, 0}, {0, -1}, {0, 5}, {MIN, 0}, {MAX, 0}, {0, MIN}, {0, MAX}};
        for (int[] other : others) {
            Check.is("of(" + other[0] + ", " + other[1] + ")", x.of(other[0], other[1]), NONE);
        }
        x.lose(0);
        Check.is("of(0, 4), REBUILT", x.of(0, 4), 2);
        x.bad(2, 0);
        Check.is("of(0, 4), it can't be", x.of(0, 4), 0);
        Check.is("of(1, 4)", x.of(1, 4), 1);
        x.poke(2, 0, 1);
        x.steps(5);
        Check.is("of(5, 3), MOVING", x.of(5, 3), 1);
        Check.is("of(6, 3)", x.of(6, 3), 0);
        Check.is("of(0, 4), not all READ", x.of(0, 4), 2);
        x.steps(1);
        Check.is("of(0, 4), held", x.of(0, 4), 0);
        Check.is("of(0, 0), OLD", x.of(0, 0), 0);
        Check.is("of(7, 4)", x.of(7, 4), 1);
        x.steps(16);
        int[] grown = {0, 1, 2, 3, 0, 1};
        for (int block = 0; block < 6; block++) {
            Check.is("of(" + block + ", 0), NEW", x.of(block, 0), 1);
            Check.is("of(" + block + ", 1), NEW", x.of(block, 1), grown[block]);
            Check.is("of(" + block + ", 2), NEW", x.of(block, 2), block / 3);
            Check.is("of(" + block + ", 4), NEW", x.of(block, 4), grown[block] == 0 ? 3 : 1);
        }
        Check.is("of(6, 0)", x.of(6, 0), 0);
        Check.is("of(6, 1)", x.of(6, 1), 0);
        Check.is("of(6, 4)", x.of(6, 4), 2);
        x.steps(400);
        Check.is("of(0, 0), not GROWN", x.of(0, 0), 0);
        Check.is("of(11, 1)", x.of(11, 1), 3);
        Check.is("of(11, 2)", x.of(11, 2), 3);

        // DISKS of a STRIPE of 6, by the document's formula
        x.make(6, 40);
        Check.is("of(37, 1)", x.of(37, 1), (6 - 1 - 7 % 6 + 1 + 37 % 5) % 6);
        Check.is("of(37, 2)", x.of(37, 2), 7);
    }

    private static void word() {
        Check.part("promise 28");
        GrowHouse x = Sample.small();
        Check.row(x, 0, 10, 11, 1);
        Check.row(x, 1, 13, 1, 12);
        Check.row(x, 2, 1, 14, 15);
        Check.row(x, 3, 16, 17, 1);
        int[][] others = {{-1, 0}, {3, 0}, {0, -1}, {0, 4}, {MIN, 0}, {MAX, 0}, {0, MIN}, {0, MAX}};
        for (int[] other : others) {
            Check.missing("word of others", () -> x.word(other[0], other[1]));
        }
        x.bad(0, 0);
        x.lose(1);
        Check.is("word(0, 0), BAD", x.word(0, 0), 10);
        Check.is("word(1, 0), LOST", x.word(1, 0), 11);
        x.replace();
        x.grow();
        Check.is("word(3, 3)", x.word(3, 3), 0);
        Check.missing("word(4, 0)", () -> x.word(4, 0));
    }

    private static void badAt() {
        Check.part("promise 29");
        GrowHouse x = Sample.small();
        Check.is("badAt(NONE)", x.badAt(NONE), 0);
        Check.is("badAt(0)", x.badAt(0), NONE);
        x.bad(2, 0);
        x.bad(0, 3);
        x.bad(1, 0);
        x.bad(2, 3);
        int[] due = {1, 2, 300, 302};
        for (int i = 0; i < 4; i++) {
            Check.is("badAt(" + i + ")", x.badAt(i), due[i]);
        }
        Check.is("badAt(NONE)", x.badAt(NONE), 4);
        int[] others = {4, -2, MIN, MAX};
        for (int i : others) {
            Check.is("badAt(" + i + ")", x.badAt(i), NONE);
        }
        x.lose(2);
        Check.is("badAt(NONE), with those of a LOST DISK", x.badAt(NONE), 4);
    }

    private static void spoilt() {
        Check.part("promise 30");
        GrowHouse x = Sample.small();
        Check.is("spoilt(), not GROWN", x.spoilt(), NONE);
        x.grow();
        Check.is("spoilt()", x.spoilt(), 0);
        x.steps(6);
        Check.is("spoilt(), all READ", x.spoilt(), 0);
        x.poke(0, 0, 70);
        Check.is("spoilt(), BLOCK 0 otherwise", x.spoilt(), 1);
        x.bad(2, 1);
        x.bad(0, 1);
        Check.is("spoilt(), BLOCKS 2, 3 could not be read", x.spoilt(), 3);
        x.steps(7);
        Check.is("spoilt(), MARK", x.spoilt(), 0);
        Check.is("nothing is altered", x.batch(1), 13);
        x.steps(9);
        x.steps(3);
        x.ask(false, 0, 0, 0);
        x.bad(0, 3);
        x.lose(1);
        // neither 6 nor 7 could be read again; 6 and 7 are held
        Check.is("spoilt(), the second BATCH", x.spoilt(), 2);
        Check.is("REQUESTS stay", x.count(15), 1);
        x.crash();
        Check.missing("read(6)", () -> x.read(6));
        Check.missing("read(7)", () -> x.read(7));
        Check.is("spoilt(), nothing MOVING", x.spoilt(), 0);
    }

    private static void exposed() {
        Check.part("promise 31");
        GrowHouse x = Sample.small();
        int[] others = {-1, 3, MIN, MAX};
        for (int disk : others) {
            Check.is("exposed(" + disk + ")", x.exposed(disk), NONE);
        }
        Check.is("exposed(0)", x.exposed(0), 0);
        x.bad(0, 0);
        // BLOCK 0 is BAD: without DISK 1 neither 0 nor 1 can be read, without DISK 2 not 0
        Check.is("exposed(0)", x.exposed(0), 0);
        Check.is("exposed(1)", x.exposed(1), 2);
        Check.is("exposed(2)", x.exposed(2), 1);
        // PARITY is wrong: 6 and 7 would be REBUILT otherwise
        x.poke(2, 3, 0);
        Check.is("exposed(0)", x.exposed(0), 1);
        Check.is("exposed(1)", x.exposed(1), 3);
        Check.is("count(7)", x.count(7), NONE);
        x.lose(1);
        Check.is("exposed(0), one LOST", x.exposed(0), 0);
        Check.is("exposed(1), one LOST", x.exposed(1), 0);
        Check.is("exposed(3), one LOST", x.exposed(3), NONE);

        GrowHouse y = Sample.growing();
        y.bad(0, 0);
        Check.is("exposed(3)", y.exposed(3), 0);
        Check.is("exposed(4)", y.exposed(4), NONE);
        Check.is("exposed(1)", y.exposed(1), 2);
        y.steps(6);
        Check.is("exposed(1), held", y.exposed(1), 0);
        y.steps(16);
        y.bad(3, 0);
        y.bad(3, 1);
        // PARITY of ROW 0, BLOCK 3
        Check.is("exposed(0)", y.exposed(0), 3);
        Check.is("exposed(3)", y.exposed(3), 0);
    }

    private static void batch() {
        Check.part("promise 32");
        GrowHouse x = Sample.small();
        for (int what = -1; what <= 8; what++) {
            Check.is("batch(" + what + "), not GROWN", x.batch(what), NONE);
        }
        x.grow();
        int[] others = {-1, 8, MIN, MAX};
        for (int what : others) {
            Check.is("batch(" + what + ")", x.batch(what), NONE);
        }
        batches(x, 22, 0, 1, 29, 1, 6, 0, 0);
        x.steps(12);
        batches(x, 22, 12, 1, 17, 1, 6, 0, 0);
        x.steps(1);
        batches(x, 22, 13, 1, 16, 1, 6, 0, 1);
        x.steps(9);
        batches(x, 7, 0, 0, 7, 0, 0, 0, 0);
        x.bad(0, 3);
        x.bad(2, 3);
        batches(x, 7, 0, 0, 7, 0, 0, 1, 0);
        x.poke(0, 3, 16);
        x.steps(2);
        x.bad(0, 3);
        // what was READ is no more asked for
        batches(x, 7, 2, 0, 5, 0, 0, 0, 0);

        GrowHouse y = Sample.growing();
        y.set(0, 1);
        // BORDER 0: 3 + 3 + 1 + 4 + 1; BORDER 1: 3 / 2 = 1 is the STRIPE itself: CRITICAL; BORDER 2: 3 is behind it
        batches(y, 12, 0, 1, 31, 2, 3, 0, 0);
        y.set(0, 3);
        batches(y, 31, 0, 1, 31, 1, 9, 0, 0);
        y.set(0, 4);
        batches(y, 31, 0, 1, 31, 1, 9, 0, 0);

        GrowHouse z = new GrowHouse();
        z.make(4, 4);
        z.grow();
        // 8 + 8 + 1 + 10 + 1, then BORDER 2: 8 / 3 = 2: CRITICAL, 4 + 4 + 1 + 5 + 1
        batches(z, 28, 0, 1, 43, 2, 8, 0, 0);
        z.steps(28);
        batches(z, 15, 0, 1, 15, 1, 4, 0, 0);
    }

    private static void batches(GrowHouse x, int... due) {
        for (int what = 0; what < due.length; what++) {
            Check.is("batch(" + what + ")", x.batch(what), due[what]);
        }
    }

    private static void count() {
        Check.part("promise 33");
        GrowHouse x = Sample.growing();
        x.set(0, 1);
        x.set(1, 3);
        x.set(2, 7);
        x.steps(12);
        x.bad(1, 1);
        x.bad(2, 3);
        x.lose(0);
        x.ask(false, 5, 0, 0);
        x.ask(false, 4, 0, 0);
        x.tick(4);
        x.feed(0, 0, 0);
        x.end(7);
        // PARITY of ROWS 1, 3 is BAD and DISK 0 LOST: 3 and 6 can't be read, so the second BATCH is STUCK at once
        int[] due = {4, 4, 8, 1, 1, 2, 3, 0, 2, 1, 12, 1, 3, 7, 2, 1, 7};
        for (int what = 0; what < due.length; what++) {
            Check.is("count(" + what + ")", x.count(what), due[what]);
        }
        int[] others = {-1, 17, MIN, MAX};
        for (int what : others) {
            Check.is("count(" + what + ")", x.count(what), NONE);
        }
        x.make(3, 4);
        Check.is("count(4), not GROWN", x.count(4), 0);
        Check.is("count(6), not GROWN", x.count(6), NONE);
        Check.is("count(7), none LOST", x.count(7), NONE);
    }
}
