import java.util.function.Supplier;
import java.util.function.ToLongFunction;

/**
 * A test for each sentence of promises 1 to 24 and 26 to 33 that names a boundary: the sentence stands above it.
 * Where a call is refused, all that the object tells is the same behind it as ahead of it.
 */
public final class EdgesOfCallsTest {
    private static final int NONE = GrowHouse.NONE;
    private static final int MIN = Integer.MIN_VALUE;
    private static final int MAX = Integer.MAX_VALUE;

    private EdgesOfCallsTest() {
    }

    public static void main(String[] args) {
        newObject();
        make();
        set();
        grow();
        steps();
        crash();
        read();
        write();
        fill();
        lose();
        replace();
        bad();
        ask();
        tick();
        served();
        request();
        poke();
        scrub();
        repair();
        forecast();
        image();
        back();
        feed();
        end();
        laid();
        of();
        word();
        badAt();
        spoilt();
        exposed();
        batch();
        count();
        Check.end("EdgesOfCallsTest");
    }

    /** A call that answers so, and leaves all as it is. */
    private static void idle(String what, Supplier<GrowHouse> made, ToLongFunction<GrowHouse> call, long due) {
        GrowHouse x = made.get();
        Check.is(what, Check.answer(() -> (int) call.applyAsLong(x)), due);
        Check.same("what is told behind " + what, Sample.told(x), Sample.told(made.get()));
    }

    /** Each call of others, in each kind of state. */
    private static void idleAnywhere(String what, ToLongFunction<GrowHouse> call, long due) {
        idle(what + ", calm", Sample::calm, call, due);
        idle(what + ", between BATCHES", Sample::between, call, due);
        idle(what + ", MOVING", Sample::moving, call, due);
        idle(what + ", LOST", Sample::lost, call, due);
    }

    private static long bit(boolean b) {
        return b ? 1 : 0;
    }

    // Promise 1

    /** "GrowHouse(): 4 DISKS, 12 ROWS." */
    private static void newObject() {
        Check.part("1: 4 DISKS, 12 ROWS");
        GrowHouse x = new GrowHouse();
        int[] due = {4, 12, 36, 0, 0, 0, NONE, NONE, 0, 0, 0, 2, 2, 20, 0, 0, 0};
        for (int what = 0; what < due.length; what++) {
            Check.is("count(" + what + ")", x.count(what), due[what]);
        }
        GrowHouse y = new GrowHouse();
        y.make(4, 12);
        Check.same("what is told", Sample.told(x), Sample.told(y));
    }

    // Promise 2

    private static void make() {
        makeRefused();
        makeBeginsAnew();
        makeKeepsTheTape();
        makeEndsImages();
        makeEndsServed();
    }

    /** "NONE: others." */
    private static void makeRefused() {
        Check.part("2: NONE: others");
        int[][] others = {{2, 4}, {7, 4}, {3, 3}, {3, 41}, {6, 41}, {2, 41}, {MIN, 4}, {MAX, 4}, {3, MIN}, {3, MAX}};
        for (int[] other : others) {
            idleAnywhere("make(" + other[0] + ", " + other[1] + ")", x -> x.make(other[0], other[1]), NONE);
        }
        int[][] edges = {{3, 4, 8}, {3, 40, 80}, {6, 4, 20}, {6, 40, 200}};
        for (int[] edge : edges) {
            Check.is("make(" + edge[0] + ", " + edge[1] + ")", new GrowHouse().make(edge[0], edge[1]), edge[2]);
        }
    }

    /** "all is as at first (SIZE, LEAST, MOST, too" */
    private static void makeBeginsAnew() {
        Check.part("2: all is as at first");
        for (int i = 0; i < 2; i++) {
            GrowHouse x = i == 0 ? Sample.moving() : Sample.lost();
            x.end(0);
            Check.is("make(4, 12)", x.make(4, 12), 36);
            Check.same("what is told", Sample.told(x), Sample.told(new GrowHouse()));
        }
        GrowHouse x = Sample.calm();
        x.make(4, 12);
        Check.is("SIZE", x.count(11), 2);
        Check.is("LEAST", x.count(12), 2);
        Check.is("MOST", x.count(13), 20);
    }

    /** "the TAPE stays" */
    private static void makeKeepsTheTape() {
        Check.part("2: the TAPE stays");
        GrowHouse x = Sample.small();
        Check.feed(x, "write 7 70;grow;");
        x.make(3, 4);
        Check.is("bytes", x.count(16), 16);
        Check.is("script()", x.script(), 2);
        Check.is("read(7)", x.read(7), 70);
    }

    /** "IMAGES are none" */
    private static void makeEndsImages() {
        Check.part("2: IMAGES are none");
        GrowHouse x = Sample.small();
        x.image(0);
        x.image(1);
        x.make(2, 4);
        Check.yes("back(0) behind a make() that was refused", x.back(0));
        x.make(3, 4);
        Check.no("back(0)", x.back(0));
        Check.no("back(1)", x.back(1));
    }

    /** "all is as at first": what was SERVED, too. */
    private static void makeEndsServed() {
        Check.part("2: none is SERVED");
        GrowHouse x = Sample.calm();
        Check.is("served(0, 0)", x.served(0, 0), 1);
        x.make(3, 4);
        Check.missing("served(0, 0)", () -> x.served(0, 0));
        Check.is("ask", x.ask(false, 0, 0, 0), 0);
        x.tick(1);
        Check.is("served(0, 0)", x.served(0, 0), 0);
        Check.missing("served(1, 0)", () -> x.served(1, 0));
    }

    // Promise 3

    private static void set() {
        setTellsWhatItWas();
        setRefused();
        setRefusedWhileMoving();
    }

    /** "SIZE (what 0), LEAST (1), MOST (2): what it was" */
    private static void setTellsWhatItWas() {
        Check.part("3: what it was");
        GrowHouse x = new GrowHouse();
        int[][] due = {{0, 1, 2}, {0, 4, 1}, {0, 4, 4}, {1, 0, 2}, {1, 20, 0}, {1, 20, 20}, {2, 1, 20}, {2, 60, 1}, {2, 60, 60}};
        for (int[] one : due) {
            Check.is("set(" + one[0] + ", " + one[1] + ")", x.set(one[0], one[1]), one[2]);
            Check.is("count(" + (11 + one[0]) + ")", x.count(11 + one[0]), one[1]);
        }
    }

    /** "NONE: others" */
    private static void setRefused() {
        Check.part("3: NONE: others");
        int[][] others = {{0, 0}, {0, 5}, {0, MIN}, {0, MAX}, {1, -1}, {1, 21}, {1, MIN}, {1, MAX}, {2, 0}, {2, 61}, {2, MIN},
            {2, MAX}, {3, 1}, {-1, 1}, {MIN, 1}, {MAX, 1}};
        for (int[] other : others) {
            idleAnywhere("set(" + other[0] + ", " + other[1] + ")", x -> x.set(other[0], other[1]), NONE);
        }
    }

    /** "MOVING (of SIZE)": of the others not. */
    private static void setRefusedWhileMoving() {
        Check.part("3: NONE: MOVING (of SIZE)");
        for (int size = 1; size <= 4; size++) {
            int v = size;
            idle("set(0, " + v + ")", Sample::moving, x -> x.set(0, v), NONE);
        }
        Check.is("set(1, 5), MOVING", Sample.moving().set(1, 5), 3);
        Check.is("set(2, 5), MOVING", Sample.moving().set(2, 5), 30);
        Check.is("set(0, 4), between BATCHES", Sample.between().set(0, 4), 1);
    }

    // Promise 4

    /** "NONE: it is GROWN, or has 7 DISKS, or one is LOST." */
    private static void grow() {
        Check.part("4: NONE: it is GROWN");
        idle("grow()", Sample::between, GrowHouse::grow, NONE);
        idle("grow()", Sample::moving, GrowHouse::grow, NONE);
        Check.part("4: NONE: it has 7 DISKS");
        idle("grow()", () -> Sample.large(7), GrowHouse::grow, NONE);
        Check.part("4: NONE: one is LOST");
        idle("grow()", Sample::lost, GrowHouse::grow, NONE);
        Check.part("4: GROWN begins");
        GrowHouse x = Sample.lost();
        x.replace();
        Check.is("grow() behind replace()", x.grow(), 3);
        for (int disks = 3; disks <= 6; disks++) {
            Check.yes("grow() of " + disks, Sample.large(disks).grow() > 0);
        }
    }

    // Promise 5

    private static void steps() {
        Check.part("5: NONE: others (1 to 400)");
        int[] others = {0, -1, 401, MIN, MAX};
        for (int n : others) {
            idleAnywhere("steps(" + n + ")", x -> x.steps(n), NONE);
        }
        GrowHouse x = Sample.large(6);
        x.grow();
        Check.is("steps(1)", x.steps(1), 1);
        Check.is("steps(400)", x.steps(400), 400);
        Check.is("STEPS", x.count(10), 401);

        Check.part("5: NONE: not GROWN");
        idle("steps(1)", Sample::calm, y -> y.steps(1), NONE);
        idle("steps(400)", Sample::lost, y -> y.steps(400), NONE);
        stepsTillStuck();
        stepsTillAllIsNew();
    }

    /** "how many were done, till STUCK" */
    private static void stepsTillStuck() {
        Check.part("5: till STUCK");
        for (int block = 0; block < 6; block++) {
            GrowHouse x = Sample.growing();
            x.bad(x.of(block, 1), x.of(block, 2));
            x.bad(2 - x.of(block, 2) % 3, x.of(block, 2));
            Check.is("steps(400), BLOCK " + block + " can't be read", x.steps(400), block);
            Check.is("steps(400) again", x.steps(400), 0);
        }
    }

    /** "or all is NEW": no STEP goes to another growth. */
    private static void stepsTillAllIsNew() {
        Check.part("5: till all is NEW");
        GrowHouse x = Sample.growing();
        Check.is("steps(28)", x.steps(28), 28);
        Check.is("steps(2), one is left", x.steps(2), 1);
        Check.is("steps(1)", x.steps(1), NONE);
        Check.is("STEPS", x.count(10), 29);
        Check.is("steps(29), all of them", Sample.growing().steps(29), 29);
        Check.is("steps(30), one more", Sample.growing().steps(30), 29);
    }

    // Promise 6

    /** "true; false: not GROWN." */
    private static void crash() {
        Check.part("6: false: not GROWN");
        idle("crash()", Sample::calm, x -> bit(x.crash()), 0);
        idle("crash()", Sample::lost, x -> bit(x.crash()), 0);
        GrowHouse x = Sample.growing();
        x.steps(29);
        Check.no("crash(), all NEW", x.crash());
        Check.part("6: true");
        Check.yes("crash(), between BATCHES", Sample.between().crash());
        Check.yes("crash(), MOVING", Sample.moving().crash());
        GrowHouse y = Sample.growing();
        y.lose(0);
        Check.yes("crash(), LOST", y.crash());
        Check.is("LOST behind it", y.count(7), 0);
    }

    // Promise 7

    /** "NoSuchElementException: others, it can't be." */
    private static void read() {
        Check.part("7: NoSuchElementException: others");
        int[] others = {-1, 8, MIN, MAX};
        for (int block : others) {
            idleAnywhere("read(" + block + ")", x -> x.read(block), Check.MISSING);
        }
        Check.is("read(0)", Sample.small().read(0), 10);
        Check.is("read(7)", Sample.small().read(7), 17);
        GrowHouse x = Sample.growing();
        Check.missing("read(8), GROWN", () -> x.read(8));
        x.steps(29);
        Check.is("read(11), all NEW", x.read(11), 0);
        Check.missing("read(12), all NEW", () -> x.read(12));

        Check.part("7: NoSuchElementException: it can't be");
        // BLOCK 4 is BAD, and DISK 1 LOST: what is BAD and LOST is but one word
        idle("read(4)", Sample::lost, y -> y.read(4), 14);
        GrowHouse y = Sample.lost();
        y.bad(2, 2);
        Check.missing("read(4)", () -> y.read(4));
        Check.missing("read(5)", () -> y.read(5));
    }

    // Promise 8

    private static void write() {
        Check.part("8: NONE: others");
        int[] others = {-1, 8, MIN, MAX};
        for (int block : others) {
            idleAnywhere("write(" + block + ", 5)", x -> x.write(block, 5), NONE);
        }
        Check.is("write(0, 5)", Sample.small().write(0, 5), 1);
        Check.is("write(7, 5)", Sample.small().write(7, 5), 1);

        Check.part("8: -3: MOVING");
        for (int block = 3; block <= 5; block++) {
            int b = block;
            idle("write(" + b + ", 5)", Sample::moving, x -> x.write(b, 5), -3);
        }
        Check.is("write(2, 5)", Sample.moving().write(2, 5), 1);
        Check.is("write(6, 5)", Sample.moving().write(6, 5), 1);

        Check.part("8: 0: it can't be");
        Supplier<GrowHouse> two = () -> {
            GrowHouse x = Sample.calm();
            x.bad(2, 2);
            return x;
        };
        idle("write(4, 5), BLOCKS 4 and 5 BAD", two, x -> x.write(4, 5), 0);
        idle("write(5, 5), BLOCKS 4 and 5 BAD", two, x -> x.write(5, 5), 0);

        Check.part("8: -3, not 0");
        GrowHouse x = Sample.moving();
        x.bad(2, 2);
        Check.is("write(4, 5)", x.write(4, 5), -3);

        Check.part("8: all words");
        int[] words = {MIN, MAX, 0, -1};
        for (int word : words) {
            GrowHouse y = Sample.small();
            Check.is("write(0, " + word + ")", y.write(0, word), 1);
            Check.is("read(0)", y.read(0), word);
            y.lose(0);
            Check.is("read(0), REBUILT", y.read(0), word);
        }
    }

    // Promise 9

    private static void fill() {
        fillRefused();
        fillEndsWithTheLastBlock();
        fillIs200AtMost();
        fillWrapsAround();
        fillLeavesOutWhatCantBe();
    }

    /** "NONE: others": nothing is WRITTEN then. */
    private static void fillRefused() {
        Check.part("9: NONE: others");
        int[][] others = {{-1, 1}, {8, 1}, {MIN, 1}, {MAX, 1}, {0, 0}, {0, -1}, {0, 9}, {7, 2}, {1, 8}, {0, 201}, {0, MIN}, {0, MAX},
            {MAX, MAX}, {MIN, MIN}, {-1, 2}, {MAX, 200}, {MIN, 200}, {-200, 200}};
        for (int[] other : others) {
            idleAnywhere("fill(" + other[0] + ", " + other[1] + ", 5)", x -> x.fill(other[0], other[1], 5), NONE);
        }
    }

    /** "BLOCKS from one on": the last one may be the last there is. */
    private static void fillEndsWithTheLastBlock() {
        Check.part("9: to the last BLOCK");
        GrowHouse x = Sample.small();
        Check.is("fill(7, 1, 70)", x.fill(7, 1, 70), 1);
        Check.is("fill(0, 1, 1)", x.fill(0, 1, 1), 1);
        Check.is("fill(5, 3, 50)", x.fill(5, 3, 50), 3);
        Check.reads(x, 0, 1, 11, 12, 13, 14, 50, 51, 52);
        Check.is("fill(0, 8, 5)", x.fill(0, 8, 5), 8);
    }

    /** "(n 1 to 200" */
    private static void fillIs200AtMost() {
        Check.part("9: n 1 to 200");
        GrowHouse x = Sample.large(7);
        Check.is("fill(0, 201, 5)", x.fill(0, 201, 5), NONE);
        Check.is("read(0)", x.read(0), 1);
        Check.is("fill(40, 200, 5)", x.fill(40, 200, 5), 200);
        Check.is("fill(41, 200, 5)", x.fill(41, 200, 5), NONE);
        Check.is("read(39)", x.read(39), 40);
        Check.is("read(40)", x.read(40), 5);
        Check.is("read(239)", x.read(239), 204);
    }

    /** "each with word, word + 1, ..": behind the highest int comes the lowest. */
    private static void fillWrapsAround() {
        Check.part("9: word + 1 wraps around");
        GrowHouse x = Sample.small();
        Check.is("fill(0, 4, MAX - 1)", x.fill(0, 4, MAX - 1), 4);
        Check.reads(x, 0, MAX - 1, MAX, MIN, MIN + 1, 14);
    }

    /** "those that are MOVING, or can't be, are not": how many were; the others have their words all the same. */
    private static void fillLeavesOutWhatCantBe() {
        Check.part("9: those that are MOVING, or can't be, are not");
        GrowHouse x = Sample.moving();
        Check.is("fill(0, 8, 50)", x.fill(0, 8, 50), 5);
        Check.reads(x, 0, 50, 51, 52, 13, 14, 15, 56, 57);
        GrowHouse y = Sample.calm();
        y.bad(2, 2);
        Check.is("fill(0, 8, 50)", y.fill(0, 8, 50), 6);
        Check.reads(y, 0, 50, 51, 52, 53);
        Check.reads(y, 6, 56, 57);
        Check.is("word(1, 2)", y.word(1, 2), 14);
        idle("fill(3, 3, 50), none", Sample::moving, z -> z.fill(3, 3, 50), 0);
    }

    // Promise 10

    /** "true; false: others, one is LOST." */
    private static void lose() {
        Check.part("10: false: others");
        int[] others = {-1, 4, MIN, MAX};
        for (int disk : others) {
            idleAnywhere("lose(" + disk + ")", x -> bit(x.lose(disk)), 0);
        }
        idle("lose(3), not GROWN", Sample::calm, x -> bit(x.lose(3)), 0);
        Check.yes("lose(0)", Sample.calm().lose(0));
        Check.yes("lose(2)", Sample.calm().lose(2));
        Check.yes("lose(3), GROWN", Sample.between().lose(3));
        Check.yes("lose(3), MOVING", Sample.moving().lose(3));
        Check.part("10: false: one is LOST");
        for (int disk = 0; disk < 3; disk++) {
            int d = disk;
            idle("lose(" + d + ")", Sample::lost, x -> bit(x.lose(d)), 0);
        }
    }

    // Promise 11

    /** "how many words of it are BAD then; NONE: none is LOST, MOVING." */
    private static void replace() {
        Check.part("11: NONE: none is LOST");
        idle("replace()", Sample::calm, GrowHouse::replace, NONE);
        idle("replace()", Sample::between, GrowHouse::replace, NONE);
        Check.part("11: NONE: MOVING");
        Supplier<GrowHouse> both = () -> {
            GrowHouse x = Sample.moving();
            x.lose(1);
            return x;
        };
        idle("replace()", both, GrowHouse::replace, NONE);
        GrowHouse x = both.get();
        x.crash();
        Check.is("replace(), no more MOVING", x.replace(), 0);
        Check.is("replace(), none is LOST", x.replace(), NONE);

        Check.part("11: how many words of it are BAD then");
        for (int many = 0; many <= 4; many++) {
            GrowHouse y = Sample.small();
            for (int row = 0; row < many; row++) {
                y.bad(2, row);
            }
            y.lose(0);
            Check.is("replace(), " + many + " can't be", y.replace(), many);
            Check.is("BAD words in all", y.count(8), 2 * many);
        }
    }

    // Promise 12

    /** "true; false: others, it is, its DISK is LOST." */
    private static void bad() {
        Check.part("12: false: others");
        int[][] others = {{-1, 0}, {4, 0}, {0, -1}, {0, 4}, {MIN, 0}, {MAX, 0}, {0, MIN}, {0, MAX}, {-1, -1}};
        for (int[] other : others) {
            idleAnywhere("bad(" + other[0] + ", " + other[1] + ")", x -> bit(x.bad(other[0], other[1])), 0);
        }
        idle("bad(3, 0), not GROWN", Sample::calm, x -> bit(x.bad(3, 0)), 0);
        Check.yes("bad(2, 3)", Sample.small().bad(2, 3));
        Check.yes("bad(0, 0)", Sample.small().bad(0, 0));
        Check.yes("bad(3, 3), GROWN", Sample.growing().bad(3, 3));
        Check.part("12: false: it is");
        idle("bad(1, 2)", Sample::calm, x -> bit(x.bad(1, 2)), 0);
        Check.part("12: false: its DISK is LOST");
        idle("bad(1, 0)", Sample::lost, x -> bit(x.bad(1, 0)), 0);
        Check.yes("bad(0, 0), another DISK is", Sample.lost().bad(0, 0));
    }

    // Promise 13

    private static void ask() {
        Check.part("13: NONE: others");
        int[][] others = {{-1, 0}, {8, 0}, {MIN, 0}, {MAX, 0}, {0, -1}, {0, 10}, {0, MIN}, {0, MAX}, {-1, -1}};
        for (int[] other : others) {
            idleAnywhere("ask of a read", x -> x.ask(false, other[0], 5, other[1]), NONE);
            idleAnywhere("ask of a write", x -> x.ask(true, other[0], 5, other[1]), NONE);
        }
        GrowHouse edges = Sample.small();
        Check.is("ask(false, 0, 0, 0)", edges.ask(false, 0, 0, 0), 0);
        Check.is("ask(true, 7, MIN, 9)", edges.ask(true, 7, MIN, 9), 1);
        askIsFull();
        askCountsFromZero();
        askTakesAnyBlock();
    }

    /** "20 there are" */
    private static void askIsFull() {
        Check.part("13: NONE: 20 there are");
        Supplier<GrowHouse> full = () -> {
            GrowHouse x = Sample.calm();
            for (int i = 0; i < 18; i++) {
                x.ask(i % 3 == 0, i % 8, i, i % 10);
            }
            return x;
        };
        Check.is("REQUESTS", full.get().count(15), 20);
        idle("ask of a read", full, x -> x.ask(false, 0, 0, 0), NONE);
        idle("ask of a write", full, x -> x.ask(true, 0, 0, 9), NONE);
        GrowHouse x = full.get();
        x.tick(2);
        Check.is("ask, one was served", x.ask(false, 0, 0, 9), 21);
    }

    /** "its number, counted from 0 since make(), the constructor": those that were refused are not counted. */
    private static void askCountsFromZero() {
        Check.part("13: counted from 0");
        GrowHouse x = new GrowHouse();
        Check.is("ask, a new object", x.ask(false, 0, 0, 0), 0);
        x.ask(false, -1, 0, 0);
        Check.is("ask, one was refused", x.ask(false, 0, 0, 0), 1);
        x.tick(60);
        Check.is("ask behind a TICK", x.ask(false, 0, 0, 0), 2);
        x.grow();
        x.crash();
        Check.is("ask behind a CRASH", x.ask(false, 0, 0, 0), 3);
        x.make(3, 3);
        Check.is("ask, make() was refused", x.ask(false, 0, 0, 0), 4);
        x.make(3, 4);
        Check.is("ask behind make()", x.ask(false, 0, 0, 0), 0);
    }

    /** A BLOCK that is MOVING, or can't be read, is no other. */
    private static void askTakesAnyBlock() {
        Check.part("13: any BLOCK");
        GrowHouse x = Sample.moving();
        Check.is("a write, MOVING", x.ask(true, 3, 5, 0), 3);
        GrowHouse y = Sample.calm();
        y.bad(2, 2);
        Check.is("a read that can't be", y.ask(false, 4, 5, 0), 3);
    }

    // Promise 14

    /** "how many REQUESTS were served; NONE: others." */
    private static void tick() {
        Check.part("14: NONE: others");
        int[] others = {0, -1, 61, MIN, MAX};
        for (int ios : others) {
            idleAnywhere("tick(" + ios + ")", x -> x.tick(ios), NONE);
        }
        Check.part("14: how many REQUESTS were served");
        GrowHouse x = Sample.small();
        Check.is("tick(60), none there", x.tick(60), 0);
        for (int i = 0; i < 20; i++) {
            x.ask(false, 0, 0, 0);
        }
        Check.is("tick(1)", x.tick(1), 1);
        Check.is("tick(60), all", x.tick(60), 19);
        Check.is("TICKS", x.count(9), 3);
        // 20 of 3 words each are 60, just what there is
        GrowHouse y = Sample.large(4);
        y.lose(0);
        for (int i = 0; i < 20; i++) {
            y.ask(false, 0, 0, 0);
        }
        Check.is("tick(59)", y.tick(59), 19);
        Check.is("tick(3)", y.tick(3), 1);
    }

    // Promise 15

    private static void served() {
        servedKinds();
        servedRefused();
        servedKeepsThirty();
        servedTickFromOne();
    }

    /** "what 0: 0 a read, 1 a write, 2 what could not be served, 1: its word (0, if it could not)" */
    private static void servedKinds() {
        Check.part("15: 0, if it could not");
        GrowHouse x = Sample.small();
        x.bad(0, 0);
        x.bad(1, 0);
        x.ask(false, 7, 99, 0);
        x.ask(true, 7, 99, 0);
        x.ask(false, 0, 99, 0);
        x.ask(true, 1, 99, 0);
        Check.is("tick(60)", x.tick(60), 4);
        int[][] due = {{0, 17}, {1, 99}, {2, 0}, {2, 0}};
        for (int number = 0; number < 4; number++) {
            Check.is("served(" + number + ", 0)", x.served(number, 0), due[number][0]);
            Check.is("served(" + number + ", 1)", x.served(number, 1), due[number][1]);
        }
    }

    /** "NoSuchElementException: others, .. not served" */
    private static void servedRefused() {
        Check.part("15: NoSuchElementException: others");
        int[][] others = {{0, -1}, {0, 3}, {0, MIN}, {0, MAX}, {-1, 0}, {3, 0}, {MIN, 0}, {MAX, 0}, {-1, -1}};
        for (int[] other : others) {
            idleAnywhere("served(" + other[0] + ", " + other[1] + ")", x -> x.served(other[0], other[1]), Check.MISSING);
        }
        Check.part("15: NoSuchElementException: not served");
        idleAnywhere("served(1, 0)", x -> x.served(1, 0), Check.MISSING);
        GrowHouse x = Sample.growing();
        x.ask(false, 7, 0, 0);
        x.crash();
        x.tick(60);
        Check.missing("served(0, 0), gone with a CRASH", () -> x.served(0, 0));
        GrowHouse y = new GrowHouse();
        for (int number = -1; number < 2; number++) {
            int n = number;
            Check.missing("served(" + n + ", 0), a new object", () -> y.served(n, 0));
        }
    }

    /** "(the latest 30 are kept)": those served the latest, not those of the highest number. */
    private static void servedKeepsThirty() {
        Check.part("15: the latest 30 are kept");
        GrowHouse x = Sample.small();
        x.ask(true, 0, 500, 9);
        for (int i = 1; i <= 30; i++) {
            x.ask(false, i % 8, 0, 0);
            x.tick(1);
        }
        for (int number = 1; number <= 30; number++) {
            Check.is("served(" + number + ", 1)", x.served(number, 1), 10 + number % 8);
        }
        Check.missing("served(0, 1), not served", () -> x.served(0, 1));
        // number 0 is served as the 31st: number 1 goes
        x.tick(2);
        Check.is("served(0, 1)", x.served(0, 1), 500);
        Check.missing("served(1, 1)", () -> x.served(1, 1));
        Check.is("served(2, 1)", x.served(2, 1), 12);
        // twice as many and more: the first of those that are kept is one behind those that are not
        for (int i = 31; i <= 95; i++) {
            x.ask(false, 1, 0, 0);
            x.tick(1);
        }
        Check.missing("served(0, 1)", () -> x.served(0, 1));
        Check.missing("served(65, 1)", () -> x.served(65, 1));
        Check.is("served(66, 1)", x.served(66, 1), 11);
        Check.is("served(95, 1)", x.served(95, 1), 11);
    }

    /** "2: in which TICK (from 1)" */
    private static void servedTickFromOne() {
        Check.part("15: in which TICK (from 1)");
        GrowHouse x = Sample.small();
        x.ask(false, 0, 0, 0);
        x.ask(true, 0, 5, 0);
        x.tick(61);
        x.tick(1);
        x.tick(1);
        x.tick(2);
        Check.is("served(0, 2)", x.served(0, 2), 1);
        Check.is("served(1, 2)", x.served(1, 2), 3);
    }

    // Promise 16

    /** "i NONE: how many; NONE: others, none such." */
    private static void request() {
        Check.part("16: i NONE: how many");
        GrowHouse x = Sample.small();
        for (int many = 0; many <= 20; many++) {
            Check.is("request(NONE, 0)", x.request(NONE, 0), many);
            Check.is("request, none such", x.request(many, 0), NONE);
            x.ask(true, many % 8, 5, many % 10);
        }
        Check.is("request(NONE, 0), 20", x.request(NONE, 0), 20);
        Check.part("16: NONE: others");
        int[] whats = {-1, 4, 5, MIN, MAX};
        for (int what : whats) {
            idleAnywhere("request(0, " + what + ")", y -> y.request(0, what), NONE);
        }
        Check.part("16: NONE: none such");
        int[] others = {2, -2, 20, MIN, MAX};
        for (int i : others) {
            for (int what = 0; what < 4; what++) {
                int w = what;
                idleAnywhere("request(" + i + ", " + w + ")", y -> y.request(i, w), NONE);
            }
        }
        int[][] due = {{1, 6, 5, 1}, {2, 2, 9, 0}};
        for (int i = 0; i < 2; i++) {
            for (int what = 0; what < 4; what++) {
                Check.is("request(" + i + ", " + what + ")", Sample.calm().request(i, what), due[i][what]);
            }
        }
    }

    // Promise 17

    /** "A word lies there now, whatever it was (PARITY stays; it is not BAD any more): true; false: others, its DISK is LOST." */
    private static void poke() {
        Check.part("17: false: others");
        int[][] others = {{-1, 0}, {4, 0}, {0, -1}, {0, 4}, {MIN, 0}, {MAX, 0}, {0, MIN}, {0, MAX}, {-1, -1}};
        for (int[] other : others) {
            idleAnywhere("poke(" + other[0] + ", " + other[1] + ", 5)", x -> bit(x.poke(other[0], other[1], 5)), 0);
        }
        idle("poke(3, 0, 5), not GROWN", Sample::calm, x -> bit(x.poke(3, 0, 5)), 0);
        Check.part("17: false: its DISK is LOST");
        for (int row = 0; row < 4; row++) {
            int r = row;
            idle("poke(1, " + r + ", 5)", Sample::lost, x -> bit(x.poke(1, r, 5)), 0);
        }
        Check.yes("poke(2, 0, 5), another DISK is", Sample.lost().poke(2, 0, 5));

        Check.part("17: PARITY stays; it is not BAD any more");
        GrowHouse x = Sample.small();
        x.bad(0, 0);
        Check.yes("poke(0, 0, MIN)", x.poke(0, 0, MIN));
        Check.row(x, 0, MIN, 11, 1);
        Check.yes("poke(2, 3, MAX), PARITY itself", x.poke(2, 3, MAX));
        Check.row(x, 3, 16, 17, MAX);
        Check.bads(x);
        Check.laid(x, 5, 5, 6);
        Check.yes("poke(3, 3, 5), GROWN", Sample.growing().poke(3, 3, 5));
    }

    // Promise 18

    /** "The i-th ROW of SCRUB (from 0), how many (i NONE); NONE: others, none such." */
    private static void scrub() {
        Check.part("18: how many (i NONE)");
        GrowHouse x = Sample.small();
        Check.is("scrub(NONE)", x.scrub(NONE), 0);
        for (int row = 0; row < 4; row++) {
            Check.is("scrub, none such", x.scrub(row), NONE);
            x.poke(0, row, 99);
            Check.is("scrub(NONE)", x.scrub(NONE), row + 1);
            Check.is("scrub(" + row + ")", x.scrub(row), row);
        }
        Check.is("scrub(4)", x.scrub(4), NONE);
        Check.part("18: NONE: others, none such");
        int[] others = {1, 4, -2, MIN, MAX};
        for (int i : others) {
            idleAnywhere("scrub(" + i + ")", y -> y.scrub(i), NONE);
        }
        Check.is("scrub(0)", Sample.calm().scrub(0), 3);
    }

    // Promise 19

    /** "PARITY of all ROWS of SCRUB is laid anew: how many." */
    private static void repair() {
        Check.part("19: none");
        idle("repair()", Sample::small, GrowHouse::repair, 0);
        idle("repair(), LOST", Sample::lost, GrowHouse::repair, 0);
        Check.part("19: all ROWS");
        GrowHouse x = Sample.large(3);
        for (int row = 0; row < 40; row++) {
            x.poke(0, row, 1000 + row);
        }
        Check.laid(x, 53, 53, 54);
        Check.is("repair()", x.repair(), 40);
        Check.laid(x, 53 + 13, 53 + 13, 54 + 14);
        Check.is("repair() again", x.repair(), 0);
        // PARITY of each third ROW, from ROW 2 on, is on DISK 0
        Check.is("word(0, 0)", x.word(0, 0), 1000);
        Check.is("word(0, 2)", x.word(0, 2), x.word(1, 2) ^ x.word(2, 2));
    }

    // Promise 20

    /** "NONE: others, not GROWN; -3: UNKNOWN." */
    private static void forecast() {
        Check.part("20: NONE: others");
        int[] others = {0, -1, 61, MIN, MAX};
        for (int ios : others) {
            idleAnywhere("forecast(" + ios + ")", x -> x.forecast(ios), NONE);
        }
        Check.part("20: NONE: not GROWN");
        idle("forecast(1)", Sample::calm, x -> x.forecast(1), NONE);
        idle("forecast(60)", Sample::lost, x -> x.forecast(60), NONE);
        Check.part("20: FORECAST alters nothing");
        // 12 STEPS of BATCH 1 and 7 of BATCH 2 are left, but 3 for REQUESTS that are served first
        idle("forecast(60)", Sample::between, x -> x.forecast(60), 1);
        idle("forecast(22)", Sample::between, x -> x.forecast(22), 1);
        idle("forecast(21)", Sample::between, x -> x.forecast(21), 2);
        idle("forecast(1)", Sample::moving, x -> x.forecast(1), 15);
        Check.part("20: -3: UNKNOWN");
        Supplier<GrowHouse> stuck = () -> {
            GrowHouse x = Sample.between();
            x.bad(2, 2);
            return x;
        };
        idle("forecast(60)", stuck, x -> x.forecast(60), -3);
    }

    // Promise 21

    /** "An IMAGE is made: true; false: others." */
    private static void image() {
        Check.part("21: false: others");
        int[] others = {-1, 2, MIN, MAX};
        for (int i : others) {
            idleAnywhere("image(" + i + ")", x -> bit(x.image(i)), 0);
        }
        Check.part("21: true");
        GrowHouse x = Sample.small();
        Check.yes("image(0)", x.image(0));
        Check.yes("image(1)", x.image(1));
        x.write(0, 50);
        Check.yes("image(0) anew", x.image(0));
        x.write(0, 60);
        x.back(1);
        Check.is("read(0), IMAGE 1", x.read(0), 10);
        x.back(0);
        Check.is("read(0), IMAGE 0", x.read(0), 50);
    }

    // Promise 22

    /** "true; false: others, none was made (since make(), the constructor)." */
    private static void back() {
        Check.part("22: false: others");
        int[] others = {-1, 2, MIN, MAX};
        for (int i : others) {
            idleAnywhere("back(" + i + ")", x -> bit(x.back(i)), 0);
        }
        Check.part("22: false: none was made");
        idleAnywhere("back(1)", x -> bit(x.back(1)), 0);
        idle("back(0)", GrowHouse::new, x -> bit(x.back(0)), 0);
        idle("back(1)", GrowHouse::new, x -> bit(x.back(1)), 0);
        GrowHouse x = Sample.calm();
        x.make(3, 4);
        Check.no("back(0), none since make()", x.back(0));
        x.image(1);
        Check.no("back(0)", x.back(0));
        Check.yes("back(1)", x.back(1));
        Check.part("22: IMAGES stay");
        x.write(0, 5);
        Check.yes("back(1) again", x.back(1));
        Check.is("read(0)", x.read(0), 0);
        Check.part("22: of another size");
        GrowHouse y = Sample.small();
        y.image(0);
        y.grow();
        y.steps(29);
        y.image(1);
        y.back(0);
        Check.is("BLOCKS", y.count(2), 8);
        Check.missing("word(3, 0)", () -> y.word(3, 0));
        y.back(1);
        Check.is("BLOCKS", y.count(2), 12);
        Check.is("word(3, 0)", y.word(3, 0), 10 ^ 11 ^ 12);
    }

    // Promise 23

    private static void feed() {
        feedIsFull();
        feedTakesTheHighestFirst();
    }

    /** "how many it has; NONE, and none come, if it would have more than 264" */
    private static void feedIsFull() {
        Check.part("23: more than 264");
        GrowHouse x = new GrowHouse();
        for (int i = 1; i <= 11; i++) {
            Check.is("feed", x.feed(MIN, i, -1), 24 * i);
        }
        Check.is("feed, 264 there are", x.feed(0, 0, 0), NONE);
        Check.is("bytes", x.count(16), 264);
        for (int n = 263; n > 240; n--) {
            x.end(n);
            Check.is("feed, " + n + " there are", x.feed(0, 0, 0), NONE);
            Check.is("bytes", x.count(16), n);
        }
        x.end(240);
        Check.is("feed, 240 there are", x.feed(0, 0, 0), 264);
        // none came: what is behind the 240 is as it was
        GrowHouse y = new GrowHouse();
        Check.feed(y, "grow;" + " ".repeat(227) + "crash;  ");
        Check.is("bytes", y.count(16), 240);
        y.feed(0, 0, 0);
        Check.is("feed, full", y.feed(-1, -1, -1), NONE);
        y.end(240);
        Check.is("script()", y.script(), 2);
    }

    /** "24 bytes come behind the TAPE, of each the highest first" */
    private static void feedTakesTheHighestFirst() {
        Check.part("23: the highest first");
        GrowHouse x = Sample.small();
        x.feed(Check.eight("write 0 ", 0), Check.eight("7; write", 0), Check.eight(" 1 8;bad", 0));
        x.feed(Check.eight(" 0 2;   ", 0), Check.eight("        ", 0), Check.eight(" lose 2;", 0));
        Check.is("script()", x.script(), 4);
        Check.reads(x, 0, 7, 8);
        Check.bads(x, 200);
        Check.is("LOST", x.count(7), 2);
        // each byte at its place: what is no sign of a SCRIPT is a FAULT there, the highest bit too
        for (int place = 0; place < 24; place++) {
            long[] words = {0x2020202020202020L, 0x2020202020202020L, 0x2020202020202020L};
            words[place / 8] ^= 0x80L << 56 - 8 * (place % 8);
            x.feed(words[0], words[1], words[2]);
            Check.is("script()", x.script(), Check.fault(place, 1));
        }
    }

    // Promise 24

    /** "The TAPE has its first n bytes alone: n; NONE: it has not so many, n is below 0." */
    private static void end() {
        Check.part("24: NONE: n is below 0");
        idleAnywhere("end(-1)", x -> x.end(-1), NONE);
        idleAnywhere("end(MIN)", x -> x.end(MIN), NONE);
        Check.part("24: NONE: it has not so many");
        idleAnywhere("end(6)", x -> x.end(6), NONE);
        idleAnywhere("end(MAX)", x -> x.end(MAX), NONE);
        idle("end(1), empty", Sample::small, x -> x.end(1), NONE);
        Check.part("24: n");
        idle("end(5), all", Sample::calm, x -> x.end(5), 5);
        idle("end(0), empty", Sample::small, x -> x.end(0), 0);
        GrowHouse x = Sample.small();
        Check.feed(x, "lose 0;lose 1;");
        Check.is("end(7)", x.end(7), 7);
        Check.is("bytes", x.count(16), 7);
        Check.is("end(8), they are gone", x.end(8), NONE);
        Check.feed(x, "write 0 5;");
        Check.is("script()", x.script(), 2);
        Check.feed(x, "lose 1;");
        Check.is("end(0)", x.end(0), 0);
        Check.is("script()", x.script(), 0);
        endLeavesNothingBehind();
    }

    /** "its first n bytes alone": what was behind them is not seen, though it would go on with them. */
    private static void endLeavesNothingBehind() {
        Check.part("24: its first n bytes alone");
        String[] texts = {"tick 10;", "grow;   ", "again 1[", "lose 0; ", "]];;]];;"};
        int[] kept = {7, 4, 7, 6, 0};
        int[] due = {Check.fault(7, 1), Check.fault(4, 1), Check.fault(7, 1), Check.fault(6, 1), 0};
        for (int i = 0; i < texts.length; i++) {
            GrowHouse x = Sample.small();
            long eight = Check.eight(texts[i], 0);
            x.feed(eight, eight, eight);
            Check.is("end", x.end(kept[i]), kept[i]);
            Check.is("script() of " + texts[i].substring(0, kept[i]), x.script(), due[i]);
            Check.is("TICKS", x.count(9), 0);
        }
        // a number ends with them, and what script() had emptied is gone, too
        GrowHouse x = Sample.small();
        Check.is("script()", Check.script(x, "write 0 12;write 1 13;"), 2);
        Check.is("script()", Check.script(x, "write 0 1"), Check.fault(9, 1));
        Check.is("read(0)", x.read(0), 12);
    }

    // Promise 26

    /** "by WRITES, STEPS, repair() (not by replace(), make(), poke(), as all is NEW) since make(); NONE: others." */
    private static void laid() {
        Check.part("26: NONE: others");
        int[] others = {-1, 4, MIN, MAX};
        for (int disk : others) {
            idleAnywhere("laid(" + disk + ")", x -> x.laid(disk), NONE);
        }
        idle("laid(3), not GROWN", Sample::calm, x -> x.laid(3), NONE);
        Check.is("laid(3), GROWN", Sample.growing().laid(3), 0);
        Check.part("26: not by replace(), poke()");
        GrowHouse x = Sample.small();
        Check.laid(x, 5, 5, 6);
        x.poke(0, 0, 5);
        x.lose(1);
        x.replace();
        Check.laid(x, 5, 5, 6);
        Check.part("26: not by make()");
        x.make(3, 4);
        Check.laid(x, 0, 0, 0);
        Check.part("26: not as all is NEW");
        GrowHouse y = Sample.growing();
        y.steps(28);
        Check.laid(y, 8, 8, 9, 3);
        y.steps(1);
        Check.laid(y, 8, 8, 9, 3);
        Check.part("26: not by a write that can't be");
        y.bad(0, 0);
        y.bad(1, 0);
        Check.is("write(2, 5)", y.write(2, 5), 0);
        Check.laid(y, 8, 8, 9, 3);
        Check.part("26: by repair()");
        y.poke(0, 1, 99);
        y.repair();
        Check.laid(y, 8, 8, 10, 3);
    }

    // Promise 27

    private static void of() {
        Check.part("27: NONE: others");
        int[][] others = {{-1, 0}, {8, 0}, {MIN, 0}, {MAX, 0}, {0, -1}, {0, 5}, {0, MIN}, {0, MAX}, {-1, -1}};
        for (int[] other : others) {
            idleAnywhere("of(" + other[0] + ", " + other[1] + ")", x -> x.of(other[0], other[1]), NONE);
        }
        Check.part("27: 0 OLD, or not GROWN, 1 NEW");
        GrowHouse x = Sample.growing();
        Check.is("of(0, 0)", Sample.small().of(0, 0), 0);
        Check.is("of(0, 0)", x.of(0, 0), 0);
        x.steps(21);
        Check.is("of(0, 0), MOVING", x.of(0, 0), 0);
        Check.is("of(3, 1), MOVING, by OLD", x.of(3, 1), 0);
        Check.is("of(3, 2), MOVING, by OLD", x.of(3, 2), 1);
        x.steps(1);
        Check.is("of(0, 0), NEW", x.of(0, 0), 1);
        Check.is("of(3, 1), by NEW", x.of(3, 1), 3);
        Check.is("of(6, 0), OLD", x.of(6, 0), 0);
        x.steps(7);
        Check.is("of(0, 0), not GROWN", x.of(0, 0), 0);
        ofWordsRead();
    }

    /** "words read to read it (1; REBUILT: others of its STRIPE; 0: it can't be, or it is read as MOVING)" */
    private static void ofWordsRead() {
        Check.part("27: words read to read it");
        for (int m = 3; m <= 7; m++) {
            GrowHouse x = Sample.large(m);
            Check.is("of(0, 4)", x.of(0, 4), 1);
            x.lose(0);
            Check.is("of(0, 4), REBUILT of " + m, x.of(0, 4), m - 1);
            x.bad(1, 0);
            Check.is("of(0, 4), it can't be", x.of(0, 4), 0);
        }
        GrowHouse x = Sample.growing();
        x.steps(5);
        Check.is("of(5, 4), not all READ", x.of(5, 4), 1);
        x.steps(1);
        for (int block = 0; block < 8; block++) {
            Check.is("of(" + block + ", 4), all READ", x.of(block, 4), block < 6 ? 0 : 1);
        }
        x.steps(16);
        Check.is("of(5, 4), CHECKPOINT", x.of(5, 4), 1);
    }

    // Promise 28

    /** "A word as it lies there (LOST or BAD, too); NoSuchElementException: others." */
    private static void word() {
        Check.part("28: NoSuchElementException: others");
        int[][] others = {{-1, 0}, {4, 0}, {0, -1}, {0, 4}, {MIN, 0}, {MAX, 0}, {0, MIN}, {0, MAX}, {-1, -1}};
        for (int[] other : others) {
            idleAnywhere("word(" + other[0] + ", " + other[1] + ")", x -> x.word(other[0], other[1]), Check.MISSING);
        }
        idle("word(3, 0), not GROWN", Sample::calm, x -> x.word(3, 0), Check.MISSING);
        Check.is("word(3, 3), GROWN", Sample.growing().word(3, 3), 0);
        Check.is("word(2, 3)", Sample.small().word(2, 3), 1);
        Check.part("28: LOST or BAD, too");
        GrowHouse x = Sample.small();
        x.bad(0, 0);
        x.bad(1, 3);
        x.lose(1);
        Check.row(x, 0, 10, 11, 1);
        Check.row(x, 3, 16, 17, 1);
    }

    // Promise 29

    /** "The i-th BAD word (by ROWS, then DISKS, from 0) ..; how many (i NONE); NONE: others, none such." */
    private static void badAt() {
        Check.part("29: how many (i NONE)");
        GrowHouse x = Sample.large(6);
        Check.is("badAt(NONE)", x.badAt(NONE), 0);
        Check.is("badAt(0)", x.badAt(0), NONE);
        // all of them, from the last on
        for (int k = 239; k >= 0; k--) {
            x.bad(k % 6, k / 6);
            Check.is("badAt(NONE)", x.badAt(NONE), 240 - k);
        }
        for (int k = 0; k < 240; k++) {
            Check.is("badAt(" + k + ")", x.badAt(k), 100 * (k / 6) + k % 6);
        }
        Check.is("badAt(240)", x.badAt(240), NONE);
        Check.part("29: NONE: others, none such");
        int[] others = {1, -2, MIN, MAX};
        for (int i : others) {
            idle("badAt(" + i + ")", Sample::calm, y -> y.badAt(i), NONE);
            idle("badAt(" + i + ")", Sample::moving, y -> y.badAt(i), NONE);
        }
        Check.is("badAt(0)", Sample.calm().badAt(0), 201);
        Check.part("29: those of a LOST DISK");
        Check.bads(Sample.lost(), 201);
    }

    // Promise 30

    /** "SPOILT by a CRASH; NONE: not GROWN." */
    private static void spoilt() {
        Check.part("30: NONE: not GROWN");
        idle("spoilt()", Sample::calm, GrowHouse::spoilt, NONE);
        idle("spoilt()", Sample::lost, GrowHouse::spoilt, NONE);
        GrowHouse x = Sample.growing();
        x.steps(29);
        Check.is("spoilt(), all NEW", x.spoilt(), NONE);
        Check.part("30: BLOCKS alone");
        // the last BATCH, all READ: what is behind the last BLOCK is none
        GrowHouse last = Sample.growing();
        last.steps(24);
        Check.is("spoilt()", last.spoilt(), 0);
        last.poke(0, 3, 99);
        Check.is("spoilt(), BLOCK 6 otherwise", last.spoilt(), 1);
        for (int disk = 0; disk < 4; disk++) {
            Check.is("exposed(" + disk + ")", last.exposed(disk), 0);
        }
        Check.is("count(14)", last.count(14), 0);
        Check.part("30: nothing is altered");
        idle("spoilt()", Sample::between, GrowHouse::spoilt, 0);
        Supplier<GrowHouse> harmed = () -> {
            GrowHouse y = Sample.moving();
            y.bad(0, 1);
            y.lose(2);
            return y;
        };
        // BLOCKS 3 (DISK 0, ROW 1, with DISK 2), 4 and 5 (ROW 2, DISK 1 BAD) could not be read
        idle("spoilt()", harmed, GrowHouse::spoilt, 3);
    }

    // Promise 31

    /** "EXPOSED by a DISK; NONE: others." */
    private static void exposed() {
        Check.part("31: NONE: others");
        int[] others = {-1, 4, MIN, MAX};
        for (int disk : others) {
            idleAnywhere("exposed(" + disk + ")", x -> x.exposed(disk), NONE);
        }
        idle("exposed(3), not GROWN", Sample::calm, x -> x.exposed(3), NONE);
        idle("exposed(3), LOST", Sample::lost, x -> x.exposed(3), NONE);
        Check.part("31: nothing is altered");
        // ROW 2: BLOCK 4 on DISK 1 BAD; ROW 3: 16 70 and a PARITY of 99
        int[] due = {2, 1, 2};
        for (int disk = 0; disk < 3; disk++) {
            int d = disk;
            idle("exposed(" + d + ")", Sample::calm, x -> x.exposed(d), due[d]);
        }
        idle("exposed(3), GROWN", Sample::between, x -> x.exposed(3), 0);
        Check.part("31: 0, if one is LOST");
        for (int disk = 0; disk < 3; disk++) {
            int d = disk;
            idle("exposed(" + d + ")", Sample::lost, x -> x.exposed(d), 0);
        }
    }

    // Promise 32

    private static void batch() {
        Check.part("32: NONE: others");
        int[] others = {-1, 8, MIN, MAX};
        for (int what : others) {
            idleAnywhere("batch(" + what + ")", x -> x.batch(what), NONE);
        }
        Check.part("32: NONE: not GROWN");
        for (int what = 0; what < 8; what++) {
            int w = what;
            idle("batch(" + w + ")", Sample::calm, x -> x.batch(w), NONE);
            idle("batch(" + w + ")", Sample::lost, x -> x.batch(w), NONE);
            idle("batch(" + w + "), all NEW", () -> Sample.large(7), x -> x.batch(w), NONE);
        }
        batchTillAllIsNew();
        batchCriticalFromNowOn();
        batchStuckWithTheNextStep();
    }

    /** "3: STEPS till all is NEW, by SIZE as it is, from now on": it is what steps() does. */
    private static void batchTillAllIsNew() {
        Check.part("32: STEPS till all is NEW");
        for (int disks = 3; disks <= 6; disks++) {
            for (int size = 1; size <= 4; size++) {
                GrowHouse x = Sample.large(disks);
                x.set(0, size);
                x.grow();
                int left = x.batch(3);
                int stepped = 0;
                for (int turn = 0; turn < 5 && x.count(3) == 1; turn++) {
                    stepped += x.steps(turn == 0 ? 7 : 400);
                    Check.is("batch(3)", x.batch(3), x.count(3) == 1 ? left - stepped : NONE);
                }
                Check.is("STEPS", stepped, left);
            }
        }
        GrowHouse x = Sample.growing();
        x.steps(28);
        Check.is("batch(3), one left", x.batch(3), 1);
        x.crash();
        Check.is("batch(3) behind a CRASH", x.batch(3), 7);
    }

    /** "4: CRITICAL BATCHES among those from now on, 5: the most words a BACKUP of these has" */
    private static void batchCriticalFromNowOn() {
        Check.part("32: CRITICAL BATCHES from now on");
        GrowHouse x = Sample.growing();
        x.steps(21);
        Check.is("batch(4), its CHECKPOINT is left", x.batch(4), 1);
        Check.is("batch(5)", x.batch(5), 6);
        x.steps(1);
        Check.is("batch(4), none", x.batch(4), 0);
        Check.is("batch(5), none", x.batch(5), 0);
        // NEW STRIPES 4, SIZE 3: the last BATCH has one STRIPE, 9 / 2 is behind it
        GrowHouse y = new GrowHouse();
        y.make(3, 6);
        y.set(0, 3);
        y.grow();
        Check.is("batch(4)", y.batch(4), 1);
        Check.is("batch(5)", y.batch(5), 9);
        // SIZE 4 of 6 DISKS: the BACKUP of the most words there is
        GrowHouse z = Sample.large(6);
        z.set(0, 4);
        z.grow();
        Check.is("batch(5)", z.batch(5), 24);
        z.set(0, 1);
        Check.is("batch(5)", z.batch(5), 6);
        // BORDER * 6 / 5 is BORDER itself below 5
        Check.is("batch(4)", z.batch(4), 5);
    }

    /** "6: 1 STUCK with the next STEP" */
    private static void batchStuckWithTheNextStep() {
        Check.part("32: STUCK with the next STEP");
        GrowHouse x = Sample.growing();
        x.bad(0, 0);
        x.bad(2, 0);
        Check.is("BLOCK 0 is the next", x.batch(6), 1);
        x.poke(2, 0, 1);
        x.bad(0, 1);
        x.bad(1, 1);
        for (int step = 0; step < 3; step++) {
            Check.is("BLOCK 3 is not the next", x.batch(6), 0);
            x.steps(1);
        }
        Check.is("BLOCK 3 is the next", x.batch(6), 1);
        // behind READ nothing is asked for
        GrowHouse y = Sample.growing();
        y.steps(6);
        for (int row = 0; row < 4; row++) {
            y.bad(0, row);
            y.bad(1, row);
        }
        Check.is("all READ", y.batch(6), 0);
        Check.is("steps(16)", y.steps(16), 16);
        Check.is("BLOCK 6 is the next", y.batch(6), 1);
    }

    // Promise 33

    private static void count() {
        Check.part("33: NONE for another what");
        int[] others = {-1, 17, MIN, MAX};
        for (int what : others) {
            idleAnywhere("count(" + what + ")", x -> x.count(what), NONE);
        }
        Check.part("33: GROWN: with the new one");
        Check.is("count(0)", Sample.small().count(0), 3);
        Check.is("count(0)", Sample.growing().count(0), 4);
        Check.part("33: BORDER (0: not GROWN)");
        Check.is("count(4)", Sample.between().count(4), 1);
        Check.is("count(4)", Sample.large(7).count(4), 0);
        Check.part("33: NEW STRIPES (NONE: not GROWN)");
        Check.is("count(6)", Sample.between().count(6), 3);
        Check.is("count(6)", Sample.calm().count(6), NONE);
        Check.is("count(6)", Sample.large(7).count(6), NONE);
        Check.part("33: the LOST DISK (NONE)");
        Check.is("count(7)", Sample.calm().count(7), NONE);
        Check.is("count(7)", Sample.lost().count(7), 1);
        countUnreadable();
        countRunning();
    }

    /** "14: BLOCKS that can't be read": from none to all. */
    private static void countUnreadable() {
        Check.part("33: BLOCKS that can't be read");
        GrowHouse x = Sample.small();
        x.lose(0);
        int[] due = {2, 3, 4, 6};
        Check.is("count(14)", x.count(14), 0);
        // ROW 1: 13 P 12, ROW 2: P 14 15
        for (int row = 0; row < 4; row++) {
            x.bad(1, row);
            Check.is("count(14), ROW " + row, x.count(14), due[row]);
        }
        for (int row = 0; row < 4; row++) {
            x.bad(2, row);
        }
        Check.is("count(14), all", x.count(14), 8);
    }

    /** "9: TICKS, 10: STEPS done in all": neither a CRASH nor a new growth begins them anew, make() does. */
    private static void countRunning() {
        Check.part("33: TICKS, STEPS done in all");
        GrowHouse x = Sample.growing();
        x.steps(5);
        x.crash();
        x.steps(400);
        Check.is("STEPS", x.count(10), 5 + 29);
        x.grow();
        x.tick(3);
        x.tick(0);
        Check.is("STEPS", x.count(10), 37);
        Check.is("TICKS", x.count(9), 1);
        x.make(3, 4);
        Check.is("STEPS", x.count(10), 0);
        Check.is("TICKS", x.count(9), 0);
    }
}
