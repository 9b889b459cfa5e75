/** A test for each sentence of the document's "Terms" that names a boundary; the sentence stands above it. */
public final class EdgesOfTermsTest {
    private static final int NONE = GrowHouse.NONE;
    private static final int MIN = Integer.MIN_VALUE;
    private static final int MAX = Integer.MAX_VALUE;

    private EdgesOfTermsTest() {
    }

    public static void main(String[] args) {
        stripes();
        growth();
        batches();
        movingAndCrash();
        lossAndReplacement();
        ticks();
        foretold();
        Check.end("EdgesOfTermsTest");
    }

    // ==== 1

    private static void stripes() {
        disksAreThreeToSix();
        rowsAreFourToForty();
        parityTurnsOverTheDisks();
        wordsTurnOverTheDisks();
        blocksEndWithTheLastRow();
        blocksAreZeroAtFirst();
        readableIsNeitherLostNorBad();
        rebuiltByAllOthers();
        rebuiltNotIfOneOtherIsNotReadable();
        writtenWithAnotherWordRebuilt();
        writtenNotIfAnotherWordCantBeRead();
        writtenThoughItsWordAndParityAreBad();
        writtenByParityAloneOnALostDisk();
        writtenWithoutAParityThatIsLost();
        writtenWordsAreNotBadOthersStay();
    }

    /** "DISKS n (3 to 6)" */
    private static void disksAreThreeToSix() {
        Check.part("DISKS n (3 to 6)");
        GrowHouse x = new GrowHouse();
        int[] disks = {MIN, -3, 0, 2, 3, 6, 7, MAX};
        int[] due = {NONE, NONE, NONE, NONE, 2 * 5, 5 * 5, NONE, NONE};
        for (int i = 0; i < disks.length; i++) {
            Check.is("make(" + disks[i] + ", 5)", x.make(disks[i], 5), due[i]);
        }
    }

    /** "ROWS r (4 to 40)" */
    private static void rowsAreFourToForty() {
        Check.part("ROWS r (4 to 40)");
        GrowHouse x = new GrowHouse();
        int[] rows = {MIN, -4, 0, 3, 4, 40, 41, MAX};
        int[] due = {NONE, NONE, NONE, NONE, 3 * 4, 3 * 40, NONE, NONE};
        for (int i = 0; i < rows.length; i++) {
            Check.is("make(4, " + rows[i] + ")", x.make(4, rows[i]), due[i]);
        }
    }

    /** "its PARITY is on DISK m - 1 - s % m": behind m STRIPES it is on the last DISK again. */
    private static void parityTurnsOverTheDisks() {
        Check.part("PARITY is on DISK m - 1 - s % m");
        for (int m = 3; m <= 7; m++) {
            GrowHouse x = Sample.large(m);
            for (int s = 0; s < 40; s++) {
                int parity = 0;
                for (int b = s * (m - 1); b < (s + 1) * (m - 1); b++) {
                    parity ^= b + 1;
                }
                Check.is("PARITY of STRIPE " + s + " of " + m, x.word(m - 1 - s % m, s), parity);
            }
        }
    }

    /** "its k-th word (k 0 to m - 2) on DISK (PARITY's + 1 + k) % m": behind the last DISK comes DISK 0. */
    private static void wordsTurnOverTheDisks() {
        Check.part("k-th word on DISK (PARITY's + 1 + k) % m");
        for (int m = 3; m <= 7; m++) {
            GrowHouse x = Sample.large(m);
            for (int b = 0; b < 40 * (m - 1); b++) {
                int s = b / (m - 1);
                int disk = (m - 1 - s % m + 1 + b % (m - 1)) % m;
                Check.is("of(" + b + ", 1), " + m + " DISKS", x.of(b, 1), disk);
                Check.is("of(" + b + ", 2), " + m + " DISKS", x.of(b, 2), s);
                Check.is("word(" + disk + ", " + s + "), " + m + " DISKS", x.word(disk, s), b + 1);
            }
        }
    }

    /** "BLOCKS: r * (n - 1)" */
    private static void blocksEndWithTheLastRow() {
        Check.part("BLOCKS: r * (n - 1)");
        for (int m = 3; m <= 7; m++) {
            GrowHouse x = Sample.large(m);
            int blocks = 40 * (m - 1);
            Check.is("count(2)", x.count(2), blocks);
            Check.is("the last BLOCK", x.read(blocks - 1), blocks);
            Check.missing("the one behind it", () -> x.read(blocks));
        }
    }

    /** "BLOCKS: .., 0 at first" */
    private static void blocksAreZeroAtFirst() {
        Check.part("BLOCKS 0 at first");
        GrowHouse x = Sample.large(7);
        x.bad(0, 0);
        x.make(6, 40);
        for (int b = 0; b < 200; b++) {
            Check.is("read(" + b + ")", x.read(b), 0);
            Check.is("of(" + b + ", 4)", x.of(b, 4), 1);
        }
        for (int row = 0; row < 40; row++) {
            Check.row(x, row, 0, 0, 0, 0, 0, 0);
        }
    }

    /** "A word is READABLE, if its DISK is not LOST and it is not BAD." */
    private static void readableIsNeitherLostNorBad() {
        Check.part("READABLE");
        GrowHouse x = Sample.small();
        Check.is("of(0, 4)", x.of(0, 4), 1);
        x.bad(0, 0);
        Check.is("of(0, 4), BAD", x.of(0, 4), 2);
        Check.is("of(3, 4), another word of its DISK", x.of(3, 4), 1);
        Check.is("of(1, 4), another word of its ROW", x.of(1, 4), 1);
        x.poke(0, 0, 10);
        x.lose(0);
        Check.is("of(0, 4), LOST", x.of(0, 4), 2);
        Check.is("of(3, 4), LOST", x.of(3, 4), 2);
        Check.is("of(1, 4), another DISK", x.of(1, 4), 1);
    }

    /** "Else it is REBUILT: all other words of its STRIPE, PARITY too, xor-ed" */
    private static void rebuiltByAllOthers() {
        Check.part("REBUILT");
        GrowHouse x = new GrowHouse();
        x.make(6, 4);
        // ROW 1: PARITY on DISK 4, BLOCKS 5 to 9 on DISKS 5, 0, 1, 2, 3
        int[] words = {1, 2, 4, 8, 16, MIN};
        for (int disk = 0; disk < 6; disk++) {
            x.poke(disk, 1, words[disk]);
        }
        int[] blocks = {6, 7, 8, 9, NONE, 5};
        for (int disk = 0; disk < 6; disk++) {
            x.image(0);
            x.lose(disk);
            if (disk != 4) {
                Check.is("read, DISK " + disk + " LOST", x.read(blocks[disk]), (MIN | 31) ^ words[disk]);
                Check.is("words read for it", x.of(blocks[disk], 4), 5);
            }
            x.back(0);
            x.bad(disk, 1);
            if (disk != 4) {
                Check.is("read, BAD", x.read(blocks[disk]), (MIN | 31) ^ words[disk]);
            }
            x.back(0);
        }
    }

    /** "if these are READABLE all; if not, it can't be read" */
    private static void rebuiltNotIfOneOtherIsNotReadable() {
        Check.part("REBUILT, if these are READABLE all");
        for (int other = 1; other < 4; other++) {
            GrowHouse x = new GrowHouse();
            x.fill(0, 36, 1);
            // ROW 0: BLOCKS 0, 1, 2, PARITY on DISK 3
            x.bad(0, 0);
            Check.is("read(0)", x.read(0), 1);
            x.bad(other, 0);
            Check.missing("read(0), DISK " + other + " BAD, too", () -> x.read(0));
            Check.is("of(0, 4)", x.of(0, 4), 0);
            x.poke(other, 0, 0);
            x.lose(other);
            Check.missing("read(0), DISK " + other + " LOST", () -> x.read(0));
            Check.is("BLOCKS that can't be read", x.count(14), other < 3 ? 2 : 1);
        }
    }

    /** "the other words of its STRIPE by its LAYOUT, but PARITY, are read (REBUILT, if need be)" */
    private static void writtenWithAnotherWordRebuilt() {
        Check.part("WRITTEN, another word REBUILT");
        GrowHouse x = new GrowHouse();
        x.fill(0, 36, 1);
        x.lose(1);
        Check.is("write(0, 50), BLOCK 1 LOST", x.write(0, 50), 1);
        Check.row(x, 0, 50, 2, 3, 50 ^ 2 ^ 3);
        x.replace();
        x.bad(1, 0);
        x.poke(1, 0, 77);
        x.bad(1, 0);
        Check.is("write(0, 60), BLOCK 1 BAD", x.write(0, 60), 1);
        Check.row(x, 0, 60, 77, 3, 60 ^ 2 ^ 3);
        Check.is("read(1), REBUILT", x.read(1), 2);
        Check.bads(x, 1);
    }

    /** "if one can't be, it can't be WRITTEN" */
    private static void writtenNotIfAnotherWordCantBeRead() {
        Check.part("it can't be WRITTEN");
        int[][] pairs = {{1, 0}, {1, 2}, {1, 3}};
        for (int[] pair : pairs) {
            GrowHouse x = new GrowHouse();
            x.fill(0, 36, 1);
            x.bad(pair[0], 0);
            x.bad(pair[1], 0);
            int parity = 1 ^ 2 ^ 3;
            Check.is("write(0, 50), DISKS 1 and " + pair[1] + " BAD", x.write(0, 50), 0);
            Check.row(x, 0, 1, 2, 3, parity);
            Check.bads(x, Math.min(pair[0], pair[1]), Math.max(pair[0], pair[1]));
            Check.laid(x, 18, 18, 18, 18);
            x.poke(pair[1], 0, pair[1] < 3 ? pair[1] + 1 : parity);
            x.lose(pair[1]);
            Check.is("write(0, 50), DISK 1 BAD, DISK " + pair[1] + " LOST", x.write(0, 50), 0);
            Check.row(x, 0, 1, 2, 3, parity);
        }
    }

    /** "the other words .., but PARITY, are read": neither its own word nor PARITY is asked for. */
    private static void writtenThoughItsWordAndParityAreBad() {
        Check.part("WRITTEN, its word and PARITY not READABLE");
        GrowHouse x = Sample.small();
        x.bad(0, 0);
        x.bad(2, 0);
        Check.missing("read(0)", () -> x.read(0));
        Check.is("write(0, 50)", x.write(0, 50), 1);
        Check.row(x, 0, 50, 11, 50 ^ 11);
        Check.is("BAD words", x.count(8), 0);
        x.bad(2, 0);
        x.lose(0);
        Check.is("write(0, 60), its DISK LOST", x.write(0, 60), 1);
        Check.row(x, 0, 50, 11, 60 ^ 11);
        Check.is("read(0)", x.read(0), 60);
    }

    /** "its word and PARITY anew are laid, each if its DISK is not LOST": its word's is. */
    private static void writtenByParityAloneOnALostDisk() {
        Check.part("its word is laid, if its DISK is not LOST");
        GrowHouse x = Sample.small();
        x.bad(0, 0);
        x.lose(0);
        Check.is("write(0, 50)", x.write(0, 50), 1);
        Check.row(x, 0, 10, 11, 50 ^ 11);
        Check.laid(x, 5, 5, 7);
        Check.bads(x, 0);
        Check.is("read(0)", x.read(0), 50);
    }

    /** "its word and PARITY anew are laid, each if its DISK is not LOST": PARITY's is. */
    private static void writtenWithoutAParityThatIsLost() {
        Check.part("PARITY is laid, if its DISK is not LOST");
        GrowHouse x = Sample.small();
        x.bad(2, 0);
        x.lose(2);
        Check.is("write(0, 50)", x.write(0, 50), 1);
        Check.row(x, 0, 50, 11, 1);
        Check.laid(x, 6, 5, 6);
        Check.bads(x, 2);
        Check.is("read(0)", x.read(0), 50);
    }

    /** "what is laid is not BAD any more (others stay as they are)" */
    private static void writtenWordsAreNotBadOthersStay() {
        Check.part("what is laid is not BAD any more");
        GrowHouse x = Sample.small();
        x.bad(0, 3);
        x.bad(1, 2);
        x.bad(1, 0);
        Check.is("write(6, 5)", x.write(6, 5), 1);
        Check.bads(x, 1, 201);
        Check.is("write(5, 5), BLOCK 4 stays BAD", x.write(5, 5), 1);
        Check.bads(x, 1, 201);
        x.bad(2, 0);
        Check.is("write(1, 5), its word and PARITY", x.write(1, 5), 1);
        Check.bads(x, 201);
    }

    // ==== 2

    private static void growth() {
        newDiskIsAllZero();
        newDiskIsAllZeroBehindBack();
        newStripesAreCountedUpwards();
        borderIsZeroAtFirst();
        blocksBelowTheBorderAreNew();
        lastCheckpointEndsTheGrowth();
        rowsFromNewStripesOnAreCleared();
        noRowIsClearedIfNewStripesFillAll();
        lastStripeHasOneBlockToAll();
        sevenDisksCantBeGrown();
    }

    /** "GROWN: a DISK n comes (all 0)": whatever lay on such a DISK ahead of make(). */
    private static void newDiskIsAllZero() {
        Check.part("a DISK n comes (all 0)");
        GrowHouse x = Sample.large(6);
        x.bad(3, 1);
        x.make(3, 4);
        x.fill(0, 8, 10);
        Check.missing("word(3, 0)", () -> x.word(3, 0));
        x.grow();
        for (int row = 0; row < 4; row++) {
            Check.is("word(3, " + row + ")", x.word(3, row), 0);
        }
        Check.is("BAD words", x.count(8), 0);
        Check.is("laid(3)", x.laid(3), 0);
    }

    /** "GROWN: a DISK n comes (all 0)": also if it was there, and back() was called. */
    private static void newDiskIsAllZeroBehindBack() {
        Check.part("a DISK n comes (all 0), behind back()");
        GrowHouse x = Sample.small();
        x.image(0);
        x.grow();
        x.steps(400);
        x.bad(3, 0);
        x.back(0);
        Check.is("DISKS", x.count(0), 3);
        x.grow();
        for (int row = 0; row < 4; row++) {
            Check.is("word(3, " + row + ")", x.word(3, row), 0);
        }
        Check.is("BAD words", x.count(8), 0);
        Check.is("laid(3)", x.laid(3), 0);
    }

    /** "NEW STRIPES: r * (n - 1) by n, upwards." */
    private static void newStripesAreCountedUpwards() {
        Check.part("NEW STRIPES, upwards");
        int[][] due = {{3, 4, 3}, {3, 5, 4}, {3, 6, 4}, {3, 40, 27}, {4, 4, 3}, {4, 5, 4}, {4, 40, 30}, {5, 4, 4},
            {5, 5, 4}, {5, 6, 5}, {6, 4, 4}, {6, 6, 5}, {6, 7, 6}, {6, 40, 34}};
        for (int[] one : due) {
            GrowHouse x = new GrowHouse();
            x.make(one[0], one[1]);
            Check.is("count(6), not GROWN", x.count(6), NONE);
            Check.is("grow() of " + one[0] + ", " + one[1], x.grow(), one[2]);
            Check.is("count(6)", x.count(6), one[2]);
        }
    }

    /** "BORDER (0 at first)": of a second growth, too. */
    private static void borderIsZeroAtFirst() {
        Check.part("BORDER (0 at first)");
        GrowHouse x = Sample.growing();
        Check.is("BORDER", x.count(4), 0);
        x.steps(22);
        Check.is("BORDER", x.count(4), 2);
        x.steps(7);
        Check.is("BORDER, all NEW", x.count(4), 0);
        x.grow();
        Check.is("BORDER, GROWN again", x.count(4), 0);
        Check.is("of(0, 0)", x.of(0, 0), 0);
        Check.is("batch(1)", x.batch(1), 0);
    }

    /** "BLOCKS below BORDER * n are at NEW, others at OLD places" */
    private static void blocksBelowTheBorderAreNew() {
        Check.part("BLOCKS below BORDER * n are at NEW");
        GrowHouse x = Sample.growing();
        Check.is("of(0, 0), BORDER 0", x.of(0, 0), 0);
        x.set(0, 1);
        for (int border = 1; border <= 2; border++) {
            x.steps(12);
            Check.is("BORDER", x.count(4), border);
            Check.is("the last below it", x.of(3 * border - 1, 0), 1);
            Check.is("the first one not", x.of(3 * border, 0), 0);
        }
        // BLOCK 5 is at DISK 1 of ROW 1 by NEW, BLOCK 6 at DISK 0 of ROW 3 by OLD
        Check.is("of(5, 1)", x.of(5, 1), 1);
        Check.is("of(5, 2)", x.of(5, 2), 1);
        Check.is("of(6, 1)", x.of(6, 1), 0);
        Check.is("of(6, 2)", x.of(6, 2), 3);
        Check.reads(x, 0, 10, 11, 12, 13, 14, 15, 16, 17);
    }

    /** "behind its CHECKPOINT all is NEW: DISKS are n + 1, BLOCKS r * n; .. it is GROWN no more" */
    private static void lastCheckpointEndsTheGrowth() {
        Check.part("all is NEW");
        GrowHouse x = Sample.growing();
        Check.is("steps(28)", x.steps(28), 28);
        Check.is("GROWN", x.count(3), 1);
        Check.is("BLOCKS", x.count(2), 8);
        Check.missing("read(8)", () -> x.read(8));
        Check.is("steps(1)", x.steps(1), 1);
        Check.is("GROWN no more", x.count(3), 0);
        Check.is("DISKS", x.count(0), 4);
        Check.is("BLOCKS", x.count(2), 12);
        Check.is("of(7, 0)", x.of(7, 0), 0);
        Check.reads(x, 0, 10, 11, 12, 13, 14, 15, 16, 17, 0, 0, 0, 0);
        Check.missing("read(12)", () -> x.read(12));
    }

    /** "all words of ROWS from NEW STRIPES on (PARITY, too), are 0, not BAD": a LOST DISK's, too, and no other ROW's. */
    private static void rowsFromNewStripesOnAreCleared() {
        Check.part("ROWS from NEW STRIPES on are 0, not BAD");
        GrowHouse x = Sample.growing();
        x.steps(28);
        for (int disk = 0; disk < 4; disk++) {
            x.poke(disk, 3, 90 + disk);
            x.bad(disk, 3);
        }
        x.poke(1, 2, 91);
        x.bad(2, 2);
        x.lose(3);
        x.steps(1);
        Check.row(x, 3, 0, 0, 0, 0);
        Check.row(x, 2, 0, 91, 16, 17);
        Check.bads(x, 202);
        // a word for each WRITE of its three STRIPES, none for what is 0 now
        Check.laid(x, 5 + 3, 5 + 3, 6 + 3, 3);
    }

    /** "ROWS from NEW STRIPES on": of 6 DISKS, 4 ROWS there is none. */
    private static void noRowIsClearedIfNewStripesFillAll() {
        Check.part("ROWS from NEW STRIPES on, none");
        GrowHouse x = new GrowHouse();
        x.make(6, 4);
        x.fill(0, 20, 1);
        Check.is("grow()", x.grow(), 4);
        x.steps(400);
        Check.is("GROWN", x.count(3), 0);
        Check.is("BLOCKS", x.count(2), 24);
        for (int block = 0; block < 24; block++) {
            Check.is("read(" + block + ")", x.read(block), block < 20 ? block + 1 : 0);
        }
        Check.is("scrub(NONE)", x.scrub(NONE), 0);
    }

    /** "NEW STRIPES .. upwards": the last one may have one BLOCK, or n of them. */
    private static void lastStripeHasOneBlockToAll() {
        Check.part("BLOCKS of the last NEW STRIPE");
        for (int n = 3; n <= 6; n++) {
            for (int rows = 4; rows <= 12; rows++) {
                GrowHouse x = new GrowHouse();
                int blocks = x.make(n, rows);
                x.fill(0, blocks, 1);
                int stripes = x.grow();
                x.set(0, 1);
                for (int border = 0; border < stripes; border++) {
                    int reads = Math.min(n, blocks - border * n);
                    int backup = border * n / (n - 1) <= border ? n + 1 : 0;
                    Check.is("batch(0), " + n + " DISKS, " + rows + " ROWS, BORDER " + border,
                        x.batch(0), reads + backup + n + 1 + 1);
                    x.steps(x.batch(0));
                }
                Check.is("all NEW", x.count(3), 0);
                for (int block = 0; block < rows * n; block++) {
                    Check.is("read(" + block + ")", x.read(block), block < blocks ? block + 1 : 0);
                }
                Check.scrubs(x);
            }
        }
    }

    /** "DISKS n (3 to 6)", grown to n + 1: 7 are the most. */
    private static void sevenDisksCantBeGrown() {
        Check.part("7 DISKS");
        GrowHouse x = new GrowHouse();
        x.make(6, 4);
        Check.is("grow() of 6", x.grow(), 4);
        x.steps(400);
        Check.is("DISKS", x.count(0), 7);
        Check.is("grow() of 7", x.grow(), NONE);
        Check.is("GROWN", x.count(3), 0);
        Check.yes("lose(6)", x.lose(6));
        Check.is("replace()", x.replace(), 0);
    }

    private static void batches() {
        sizeIsOneToFour();
        batchesAreFewerAtTheEnd();
        wordsBehindTheLastBlockAreZero();
        criticalIfTheLastStripeIsReached();
        criticalIsCountedDownwards();
        readsEndWithTheLastBlock();
        backupHasAllWords();
        noBackupUnlessCritical();
        markCountsFromThenOn();
        writeLaysWordByWordThenParity();
        nothingIsLaidOnALostDisk();
        whatAStepLaysIsNotBad();
        checkpointMovesTheBorder();
        stuckDoesNothing();
        stuckTillItCanBeRead();
        stuckAtTheFirstStepIsNotMoving();
    }

    /** "SIZE of them (1 to 4; 2 at first" */
    private static void sizeIsOneToFour() {
        Check.part("SIZE (1 to 4; 2 at first)");
        GrowHouse x = Sample.small();
        Check.is("SIZE at first", x.count(11), 2);
        Check.is("set(0, 0)", x.set(0, 0), NONE);
        Check.is("set(0, 5)", x.set(0, 5), NONE);
        Check.is("set(0, 1)", x.set(0, 1), 2);
        Check.is("set(0, 4)", x.set(0, 4), 1);
        // 40 ROWS: a BATCH of 4 STRIPES has 6 * 4 words, the most there are
        x.make(6, 40);
        x.fill(0, 200, 1);
        x.set(0, 4);
        x.grow();
        Check.is("batch(0)", x.batch(0), 24 + 24 + 1 + 28 + 1);
        x.steps(78);
        Check.is("BORDER", x.count(4), 4);
        for (int block = 0; block < 200; block++) {
            Check.is("read(" + block + ")", x.read(block), block + 1);
        }
    }

    /** "fewer at the end" */
    private static void batchesAreFewerAtTheEnd() {
        Check.part("a BATCH, fewer at the end");
        int[][] due = {{1, 12}, {2, 22}, {3, 31}, {4, 31}};
        for (int[] one : due) {
            GrowHouse x = Sample.small();
            x.set(0, one[0]);
            x.grow();
            Check.is("batch(0), SIZE " + one[0], x.batch(0), one[1]);
        }
        GrowHouse x = Sample.growing();
        x.steps(22);
        x.set(0, 4);
        Check.is("batch(0), one STRIPE is left", x.batch(0), 7);
        x.set(0, 1);
        Check.is("batch(0), one STRIPE is left", x.batch(0), 7);
        Check.is("steps(400)", x.steps(400), 7);
    }

    /** "n of each STRIPE (those behind the last BLOCK are 0)": they are laid over what was there. */
    private static void wordsBehindTheLastBlockAreZero() {
        Check.part("words behind the last BLOCK are 0");
        GrowHouse x = Sample.growing();
        x.steps(24);
        x.poke(0, 2, 99);
        x.bad(0, 2);
        // 16, 17, then what is behind them on DISK 0, then PARITY
        x.steps(2);
        Check.row(x, 2, 99, 14, 16, 17);
        x.steps(1);
        Check.row(x, 2, 0, 14, 16, 17);
        Check.is("BAD words", x.count(8), 0);
        x.steps(1);
        Check.row(x, 2, 0, 16 ^ 17, 16, 17);
        // a BATCH ahead of it left none of its words there
        GrowHouse y = Sample.small();
        y.set(0, 4);
        y.grow();
        y.steps(17);
        y.crash();
        y.steps(400);
        Check.row(y, 2, 0, 16 ^ 17, 16, 17);
    }

    /** "CRITICAL, if BORDER * n / (n - 1) .. is its last STRIPE at most": just so, and one behind it. */
    private static void criticalIfTheLastStripeIsReached() {
        Check.part("CRITICAL");
        GrowHouse x = new GrowHouse();
        x.make(3, 6);
        x.grow();
        Check.is("BORDER 0", x.batch(2), 1);
        x.steps(x.batch(0));
        // BORDER 2: 2 * 3 / 2 is 3
        Check.is("BORDER", x.count(4), 2);
        Check.is("last STRIPE 3", x.batch(2), 1);
        x.set(0, 1);
        Check.is("last STRIPE 2", x.batch(2), 0);
        x.set(0, 4);
        Check.is("last STRIPE 3, the last of all", x.batch(2), 1);
    }

    /** "BORDER * n / (n - 1), downwards" */
    private static void criticalIsCountedDownwards() {
        Check.part("CRITICAL, downwards");
        GrowHouse x = new GrowHouse();
        x.make(4, 8);
        x.set(0, 1);
        x.grow();
        // BORDER 0, 1, 2: 0, 4 / 3, 8 / 3; BORDER 3: 12 / 3 is 4
        int[] due = {1, 1, 1, 0, 0, 0};
        for (int border = 0; border < 6; border++) {
            Check.is("BORDER", x.count(4), border);
            Check.is("CRITICAL, BORDER " + border, x.batch(2), due[border]);
            x.steps(x.batch(0));
        }
        Check.is("all NEW", x.count(3), 0);
    }

    /** "READ of each of its BLOCKS (not of those behind the last one)" */
    private static void readsEndWithTheLastBlock() {
        Check.part("READ, not behind the last BLOCK");
        GrowHouse x = Sample.growing();
        x.steps(22);
        // nothing of ROW 4 on is asked for: BLOCKS 6, 7 alone
        Check.is("batch(0)", x.batch(0), 2 + 4 + 1);
        x.steps(1);
        Check.is("of(6, 4), not all READ", x.of(6, 4), 1);
        x.steps(1);
        Check.is("of(6, 4), all READ", x.of(6, 4), 0);
        x.steps(1);
        Check.is("the first WRITE", x.word(2, 2), 16);
    }

    /** "a BACKUP of each of its words": of those behind the last BLOCK, too. */
    private static void backupHasAllWords() {
        Check.part("a BACKUP of each of its words");
        GrowHouse x = Sample.small();
        x.set(0, 3);
        x.grow();
        Check.is("batch(5)", x.batch(5), 9);
        Check.is("batch(0)", x.batch(0), 8 + 9 + 1 + 12 + 1);
        x.steps(17);
        Check.is("no MARK", x.batch(7), 0);
        x.steps(1);
        Check.is("MARK", x.batch(7), 1);
    }

    /** "if it is CRITICAL, a BACKUP ..": else WRITE is next to READ, and there is no MARK. */
    private static void noBackupUnlessCritical() {
        Check.part("no BACKUP unless CRITICAL");
        GrowHouse x = Sample.growing();
        x.steps(22);
        Check.is("CRITICAL", x.batch(2), 0);
        for (int step = 0; step < 6; step++) {
            Check.is("steps(1)", x.steps(1), 1);
            Check.is("MARK", x.batch(7), 0);
        }
        x.crash();
        Check.is("batch(1) behind a CRASH", x.batch(1), 0);
    }

    /** "then a MARK (the BACKUP counts from then on)" */
    private static void markCountsFromThenOn() {
        Check.part("the BACKUP counts from then on");
        GrowHouse x = Sample.growing();
        x.steps(12);
        Check.is("MARK", x.batch(7), 0);
        x.crash();
        Check.is("batch(1), no MARK", x.batch(1), 0);
        x.steps(13);
        Check.is("MARK", x.batch(7), 1);
        x.crash();
        Check.is("batch(1), MARK", x.batch(1), 13);
        Check.is("MARK behind the CRASH", x.batch(7), 1);
    }

    /** "WRITE, STRIPE by STRIPE, word by word, then PARITY, by NEW" */
    private static void writeLaysWordByWordThenParity() {
        Check.part("WRITE, word by word, then PARITY");
        GrowHouse x = Sample.growing();
        x.steps(13);
        int[] disks = {0, 1, 2, 3, 3, 0, 1, 2};
        int[] words = {10, 11, 12, 10 ^ 11 ^ 12, 13, 14, 15, 13 ^ 14 ^ 15};
        int[] laid = {5, 5, 6, 0};
        for (int k = 0; k < 8; k++) {
            Check.laid(x, laid);
            x.steps(1);
            laid[disks[k]]++;
            Check.is("the word of WRITE " + k, x.word(disks[k], k / 4), words[k]);
        }
        Check.laid(x, laid);
        x.steps(1);
        Check.laid(x, laid);
    }

    /** "on a LOST DISK nothing is laid by that STEP": it is done, and costs one of those that were asked for. */
    private static void nothingIsLaidOnALostDisk() {
        Check.part("WRITE on a LOST DISK");
        for (int disk = 0; disk < 4; disk++) {
            GrowHouse x = Sample.growing();
            int before = x.laid(disk);
            x.bad(disk, 0);
            x.lose(disk);
            int lies = x.word(disk, 0);
            Check.is("steps(22)", x.steps(22), 22);
            Check.is("laid(" + disk + ")", x.laid(disk), before);
            Check.is("word(" + disk + ", 0)", x.word(disk, 0), lies);
            Check.bads(x, disk);
            Check.is("steps(7)", x.steps(7), 7);
            Check.reads(x, 0, 10, 11, 12, 13, 14, 15, 16, 17, 0, 0, 0, 0);
            Check.is("replace()", x.replace(), 0);
            Check.row(x, 0, 10, 11, 12, 10 ^ 11 ^ 12);
            Check.row(x, 2, 0, 16 ^ 17, 16, 17);
        }
    }

    /** "what is laid is not BAD any more" */
    private static void whatAStepLaysIsNotBad() {
        Check.part("what a STEP lays is not BAD any more");
        GrowHouse x = Sample.growing();
        x.steps(13);
        for (int disk = 0; disk < 4; disk++) {
            x.bad(disk, 0);
        }
        x.bad(0, 3);
        for (int left = 4; left > 0; left--) {
            Check.is("BAD words", x.count(8), left + 1);
            Check.is("the first", x.badAt(0), 4 - left);
            x.steps(1);
        }
        Check.bads(x, 300);
    }

    /** "then a CHECKPOINT: BORDER is behind it, the MARK is no more" */
    private static void checkpointMovesTheBorder() {
        Check.part("CHECKPOINT");
        GrowHouse x = Sample.growing();
        x.steps(21);
        Check.is("BORDER", x.count(4), 0);
        Check.is("MARK", x.batch(7), 1);
        x.crash();
        Check.is("batch(1)", x.batch(1), 13);
        x.steps(9);
        Check.is("BORDER", x.count(4), 2);
        Check.is("MARK", x.batch(7), 0);
        Check.is("batch(1)", x.batch(1), 0);
        x.crash();
        Check.is("BORDER behind a CRASH", x.count(4), 2);
        Check.is("batch(1)", x.batch(1), 0);
    }

    /** "What can't be READ: STUCK, nothing is done by that STEP" */
    private static void stuckDoesNothing() {
        Check.part("STUCK, nothing is done");
        GrowHouse x = Sample.growing();
        GrowHouse y = Sample.growing();
        for (GrowHouse z : new GrowHouse[] {x, y}) {
            z.bad(0, 2);
            z.bad(1, 2);
            // BLOCK 4 can't be read
            Check.is("steps(400)", z.steps(400), 4);
            Check.is("STUCK", z.batch(6), 1);
        }
        Check.is("steps(1)", x.steps(1), 0);
        Check.is("steps(400)", x.steps(400), 0);
        Check.same("what is told", Sample.told(x), Sample.told(y));
    }

    /** "(nor later, till it can be read)" */
    private static void stuckTillItCanBeRead() {
        Check.part("STUCK, till it can be read");
        GrowHouse x = Sample.growing();
        x.bad(0, 2);
        x.bad(1, 2);
        x.steps(4);
        Check.is("steps(1)", x.steps(1), 0);
        x.tick(9);
        Check.is("batch(1) behind a TICK", x.batch(1), 4);
        x.poke(0, 2, 14 ^ 15);
        Check.is("STUCK", x.batch(6), 0);
        Check.is("steps(1)", x.steps(1), 1);
        Check.is("steps(400)", x.steps(400), 24);
        Check.reads(x, 4, 14, 15, 16, 17);
    }

    /** "MOVING are the BLOCKS of a BATCH of which a STEP was done": of STUCK none was. */
    private static void stuckAtTheFirstStepIsNotMoving() {
        Check.part("STUCK at the first STEP");
        GrowHouse x = Sample.growing();
        x.bad(0, 0);
        x.bad(2, 0);
        Check.is("steps(5)", x.steps(5), 0);
        Check.is("of(0, 3)", x.of(0, 3), 0);
        Check.is("of(1, 3)", x.of(1, 3), 0);
        Check.is("set(0, 1)", x.set(0, 1), 2);
        Check.is("write(5, 50)", x.write(5, 50), 1);
        Check.is("write(0, 5), its word and PARITY", x.write(0, 5), 1);
        Check.is("steps(5)", x.steps(5), 5);
    }

    private static void movingAndCrash() {
        movingFromTheFirstStepOn();
        movingEndsWithTheBatch();
        movingIsReadByOldTillAllWereRead();
        movingIsReadThoughItsWordsAreGone();
        movingIsReadInEachBatch();
        movingCantBeWritten();
        movingKeepsTheSize();
        crashEndsRequests();
        crashBeginsTheBatchAnew();
        crashBehindAMarkBeginsWriteAnew();
        crashBetweenBatches();
    }

    /** "MOVING are the BLOCKS of a BATCH of which a STEP was done": from the first STEP to the CHECKPOINT. */
    private static void movingFromTheFirstStepOn() {
        Check.part("MOVING, a STEP was done");
        GrowHouse x = Sample.growing();
        Check.is("of(0, 3), no STEP", x.of(0, 3), 0);
        for (int step = 1; step <= 21; step++) {
            x.steps(1);
            Check.is("of(0, 3), STEP " + step, x.of(0, 3), 1);
        }
        x.steps(1);
        Check.is("of(0, 3), CHECKPOINT", x.of(0, 3), 0);
        Check.is("of(6, 3), CHECKPOINT", x.of(6, 3), 0);
    }

    /** "the BLOCKS of a BATCH": from FIRST to the last of its STRIPES, or to the last one there is. */
    private static void movingEndsWithTheBatch() {
        Check.part("MOVING, the BLOCKS of a BATCH");
        GrowHouse x = Sample.small();
        x.set(0, 1);
        x.grow();
        for (int border = 0; border < 3; border++) {
            int all = x.batch(0);
            x.steps(1);
            for (int block = 0; block < 8; block++) {
                Check.is("of(" + block + ", 3), BORDER " + border, x.of(block, 3), block / 3 == border ? 1 : 0);
            }
            x.steps(all - 1);
        }
        Check.is("of(7, 3), all NEW", x.of(7, 3), 0);
    }

    /** "they are read as their words that were READ, if all were READ (else by OLD)" */
    private static void movingIsReadByOldTillAllWereRead() {
        Check.part("MOVING is read as READ, if all were");
        GrowHouse x = Sample.growing();
        x.steps(5);
        x.poke(0, 0, 90);
        Check.is("read(0), one is left", x.read(0), 90);
        Check.is("of(0, 4)", x.of(0, 4), 1);
        x.steps(1);
        Check.is("read(0), all were", x.read(0), 10);
        Check.is("of(0, 4)", x.of(0, 4), 0);
        x.poke(2, 2, 95);
        Check.is("read(5), all were", x.read(5), 15);
        x.poke(0, 3, 96);
        Check.is("read(6), not of it", x.read(6), 96);
        x.steps(16);
        Check.reads(x, 0, 10, 11, 12, 13, 14, 15);
    }

    /** "they are read as their words that were READ": by no word that lies there. */
    private static void movingIsReadThoughItsWordsAreGone() {
        Check.part("MOVING is read, whatever lies there");
        GrowHouse x = Sample.growing();
        x.steps(6);
        x.lose(0);
        for (int row = 0; row < 3; row++) {
            x.bad(1, row);
            x.bad(2, row);
        }
        Check.reads(x, 0, 10, 11, 12, 13, 14, 15);
        Check.is("BLOCKS that can't be read", x.count(14), 0);
        Check.is("steps(16)", x.steps(16), 16);
        Check.reads(x, 0, 10, 11, 12, 13, 14, 15);
    }

    /** "they are read as their words that were READ": in the last BATCH as in the first, to the last word of it. */
    private static void movingIsReadInEachBatch() {
        Check.part("MOVING is read as READ, in each BATCH");
        GrowHouse x = Sample.large(6);
        x.set(0, 4);
        x.grow();
        for (int first = 0; first < 200; first += 24) {
            int end = Math.min(200, first + 24);
            int all = x.batch(0);
            x.steps(end - first);
            for (int block = first; block < end; block++) {
                Check.is("of(" + block + ", 4)", x.of(block, 4), 0);
                Check.is("read(" + block + ")", x.read(block), block + 1);
            }
            x.steps(all - (end - first));
        }
        Check.is("all NEW", x.count(3), 0);
    }

    /** "and can't be WRITTEN" */
    private static void movingCantBeWritten() {
        Check.part("MOVING can't be WRITTEN");
        GrowHouse x = Sample.growing();
        x.steps(1);
        for (int block = 0; block < 6; block++) {
            Check.is("write(" + block + ", 5)", x.write(block, 5), -3);
        }
        Check.is("write(6, 5)", x.write(6, 5), 1);
        Check.is("fill(0, 6, 5)", x.fill(0, 6, 5), 0);
        x.steps(20);
        Check.is("write(0, 5), one STEP is left", x.write(0, 5), -3);
        x.steps(1);
        Check.is("write(0, 5)", x.write(0, 5), 1);
    }

    /** "SIZE can't be altered then." */
    private static void movingKeepsTheSize() {
        Check.part("MOVING, SIZE can't be altered");
        GrowHouse x = Sample.growing();
        x.steps(1);
        Check.is("set(0, 1)", x.set(0, 1), NONE);
        Check.is("set(0, 2), as it is", x.set(0, 2), NONE);
        Check.is("SIZE", x.count(11), 2);
        x.crash();
        Check.is("set(0, 1), nothing MOVING", x.set(0, 1), 2);
    }

    /** "CRASH: REQUESTS are none" */
    private static void crashEndsRequests() {
        Check.part("CRASH: REQUESTS are none");
        GrowHouse x = Sample.growing();
        for (int i = 0; i < 20; i++) {
            x.ask(i % 2 == 0, 7, 5, 9);
        }
        x.crash();
        Check.is("REQUESTS", x.count(15), 0);
        Check.is("request(0, 0)", x.request(0, 0), NONE);
        Check.is("ask", x.ask(false, 7, 0, 9), 20);
        Check.is("read(7)", x.read(7), 17);
    }

    /** "the BATCH begins anew (no STEP of it is done)" */
    private static void crashBeginsTheBatchAnew() {
        Check.part("CRASH: the BATCH begins anew");
        for (int step = 0; step <= 12; step++) {
            GrowHouse x = Sample.growing();
            if (step > 0) {
                x.steps(step);
            }
            Check.yes("crash()", x.crash());
            Check.is("batch(1), " + step + " STEPS", x.batch(1), 0);
            Check.is("of(0, 3)", x.of(0, 3), 0);
            Check.is("steps(400)", x.steps(400), 29);
            Check.reads(x, 0, 10, 11, 12, 13, 14, 15, 16, 17);
        }
    }

    /** "if there is a MARK: all its words are those of the BACKUP, and WRITE begins anew (STEPS ahead of it are done)" */
    private static void crashBehindAMarkBeginsWriteAnew() {
        Check.part("CRASH: WRITE begins anew");
        for (int step = 13; step <= 21; step++) {
            GrowHouse x = Sample.growing();
            x.steps(step);
            x.poke(1, 0, 99);
            Check.yes("crash()", x.crash());
            Check.is("batch(1), " + step + " STEPS", x.batch(1), 13);
            Check.reads(x, 0, 10, 11, 12, 13, 14, 15, 16, 17);
            Check.is("steps(400)", x.steps(400), 9 + 7);
            Check.row(x, 0, 10, 11, 12, 10 ^ 11 ^ 12);
            Check.row(x, 1, 14, 15, 13 ^ 14 ^ 15, 13);
            Check.is("STEPS in all", x.count(10), step + 16);
        }
    }

    /** A CRASH right behind a CHECKPOINT: no STEP of the next BATCH was done. */
    private static void crashBetweenBatches() {
        Check.part("CRASH between BATCHES");
        GrowHouse x = Sample.growing();
        x.steps(22);
        Check.yes("crash()", x.crash());
        Check.is("BORDER", x.count(4), 2);
        Check.is("batch(1)", x.batch(1), 0);
        Check.is("steps(400)", x.steps(400), 7);
        Check.reads(x, 0, 10, 11, 12, 13, 14, 15, 16, 17);
        Check.no("crash(), all NEW", x.crash());
    }

    // ==== 3

    private static void lossAndReplacement() {
        oneDiskIsLostAtATime();
        replacedWhileNothingIsMoving();
        replacedByNewBelowTheBorder();
        replacedWithZeroOnDiskN();
        replacedWordsThatCantBeAreZeroAndBad();
        replacedWordsAreNotBad();
    }

    /** "One DISK may be LOST at a time." */
    private static void oneDiskIsLostAtATime() {
        Check.part("one LOST at a time");
        GrowHouse x = Sample.small();
        Check.yes("lose(1)", x.lose(1));
        for (int disk = 0; disk < 3; disk++) {
            Check.no("lose(" + disk + ")", x.lose(disk));
        }
        Check.is("the LOST one", x.count(7), 1);
        x.replace();
        Check.is("none LOST", x.count(7), NONE);
        Check.yes("lose(2)", x.lose(2));
    }

    /** "REPLACED (while nothing is MOVING)" */
    private static void replacedWhileNothingIsMoving() {
        Check.part("REPLACED while nothing is MOVING");
        GrowHouse x = Sample.growing();
        x.lose(1);
        for (int step = 1; step <= 21; step++) {
            x.steps(1);
            Check.is("replace(), STEP " + step, x.replace(), NONE);
        }
        Check.is("LOST", x.count(7), 1);
        x.steps(1);
        Check.is("replace(), CHECKPOINT", x.replace(), 0);
        Check.is("LOST", x.count(7), NONE);
    }

    /** "each word of it REBUILT, by NEW in ROWS below BORDER, else by OLD" */
    private static void replacedByNewBelowTheBorder() {
        Check.part("REPLACED by NEW below BORDER");
        GrowHouse x = Sample.growing();
        x.set(0, 1);
        x.steps(12);
        // ROW 0 by NEW, ROW 1 by OLD: 13 P 12, and DISK 3 is no part of it
        x.poke(3, 1, 1000);
        x.lose(1);
        Check.is("replace()", x.replace(), 0);
        Check.row(x, 0, 10, 11, 12, 10 ^ 11 ^ 12);
        Check.row(x, 1, 13, 12 ^ 13, 12, 1000);
        // by NEW PARITY of ROW 0 on DISK 3 counts
        x.poke(3, 0, 5);
        x.lose(1);
        Check.is("replace()", x.replace(), 0);
        Check.is("word(1, 0)", x.word(1, 0), 10 ^ 12 ^ 5);
    }

    /** "(DISK n: 0)": from BORDER on, and by NEW below it. */
    private static void replacedWithZeroOnDiskN() {
        Check.part("REPLACED, DISK n: 0");
        GrowHouse x = Sample.growing();
        x.set(0, 1);
        x.steps(12);
        for (int row = 0; row < 4; row++) {
            x.poke(3, row, 50);
        }
        x.bad(3, 2);
        // two words of ROW 1 are BAD: DISK n is 0 all the same
        x.bad(0, 1);
        x.bad(1, 1);
        x.lose(3);
        Check.is("replace()", x.replace(), 0);
        Check.is("word(3, 0)", x.word(3, 0), 10 ^ 11 ^ 12);
        for (int row = 1; row < 4; row++) {
            Check.is("word(3, " + row + ")", x.word(3, row), 0);
        }
        Check.bads(x, 100, 101);
        // not GROWN, the last DISK is one of the STRIPES
        GrowHouse y = Sample.small();
        y.lose(2);
        y.replace();
        Check.row(y, 0, 10, 11, 1);
        Check.row(y, 1, 13, 1, 12);
    }

    /** "what can't be: 0 and BAD" */
    private static void replacedWordsThatCantBeAreZeroAndBad() {
        Check.part("REPLACED, what can't be: 0 and BAD");
        GrowHouse x = Sample.small();
        for (int row = 0; row < 4; row++) {
            x.bad(1, row);
        }
        x.lose(0);
        Check.is("replace()", x.replace(), 4);
        for (int row = 0; row < 4; row++) {
            Check.is("word(0, " + row + ")", x.word(0, row), 0);
        }
        Check.bads(x, 0, 1, 100, 101, 200, 201, 300, 301);
    }

    /** "others are not BAD": also if they were. */
    private static void replacedWordsAreNotBad() {
        Check.part("REPLACED, others are not BAD");
        GrowHouse x = Sample.small();
        x.bad(0, 0);
        x.bad(0, 1);
        x.bad(1, 1);
        x.lose(0);
        Check.is("replace()", x.replace(), 1);
        Check.bads(x, 100, 101);
        Check.is("word(0, 0)", x.word(0, 0), 10);
        Check.laid(x, 5, 5, 6);
    }

    private static void ticks() {
        requestsAreTwentyAtMost();
        urgencyIsZeroToNine();
        ofOneUrgencyTheFirstTold();
        iosAreOneToSixty();
        leastIsKeptForSteps();
        leastIsKeptWhileGrownAlone();
        leastIsMoreThanThereAre();
        servedAsLongAsTheCostIsLeft();
        aReadCostsOne();
        aRebuiltReadCostsItsReads();
        aWriteCostsTwo();
        whatCantBeCostsOne();
        stepsTakeWhatIsLeft();
        stepsAreMostAtMost();
        aWriteOfMovingStays();
        aWriteOfMovingGoesBehindItsCheckpoint();
    }

    /** "REQUESTS, 20 at most" */
    private static void requestsAreTwentyAtMost() {
        Check.part("REQUESTS, 20 at most");
        GrowHouse x = Sample.small();
        for (int i = 0; i < 20; i++) {
            Check.is("ask", x.ask(false, 0, 0, 9 - i % 10), i);
        }
        Check.is("the 21st", x.ask(false, 0, 0, 0), NONE);
        Check.is("REQUESTS", x.request(NONE, 0), 20);
        Check.is("the last", x.request(19, 2), 9);
        Check.is("behind it", x.request(20, 2), NONE);
        Check.is("tick(60)", x.tick(60), 20);
        Check.is("ask", x.ask(false, 0, 0, 0), 20);
    }

    /** "URGENCY 0 to 9 (the less the sooner" */
    private static void urgencyIsZeroToNine() {
        Check.part("URGENCY 0 to 9");
        GrowHouse x = Sample.small();
        int[] others = {-1, 10, MIN, MAX};
        for (int urgency : others) {
            Check.is("ask, URGENCY " + urgency, x.ask(false, 0, 0, urgency), NONE);
        }
        for (int urgency = 9; urgency >= 0; urgency--) {
            Check.is("ask, URGENCY " + urgency, x.ask(false, 0, 0, urgency), 9 - urgency);
        }
        for (int urgency = 0; urgency < 10; urgency++) {
            Check.is("the next one's URGENCY", x.request(0, 2), urgency);
            Check.is("tick(1)", x.tick(1), 1);
            Check.is("its TICK", x.served(9 - urgency, 2), urgency + 1);
        }
    }

    /** "of one the one told first" */
    private static void ofOneUrgencyTheFirstTold() {
        Check.part("of one URGENCY the one told first");
        GrowHouse x = Sample.small();
        int[] urgencies = {5, 5, 0, 9, 5, 0, 9};
        for (int urgency : urgencies) {
            x.ask(true, 0, 5, urgency);
        }
        int[] due = {2, 5, 0, 1, 4, 3, 6};
        for (int i = 0; i < due.length; i++) {
            Check.is("request(" + i + ", 0)", x.request(i, 0), due[i]);
        }
        for (int number : due) {
            Check.is("the next one", x.request(0, 0), number);
            x.tick(2);
        }
    }

    /** "A TICK of IOS (1 to 60)" */
    private static void iosAreOneToSixty() {
        Check.part("IOS (1 to 60)");
        GrowHouse x = Sample.small();
        int[] others = {0, -1, 61, MIN, MAX};
        for (int ios : others) {
            Check.is("tick(" + ios + ")", x.tick(ios), NONE);
        }
        Check.is("TICKS", x.count(9), 0);
        Check.is("tick(1)", x.tick(1), 0);
        Check.is("tick(60)", x.tick(60), 0);
        Check.is("TICKS", x.count(9), 2);
    }

    /** "while GROWN, LEAST (0 to 20; 2 at first) of these are kept for STEPS" */
    private static void leastIsKeptForSteps() {
        Check.part("LEAST (0 to 20; 2 at first)");
        GrowHouse x = Sample.growing();
        Check.is("LEAST at first", x.count(12), 2);
        Check.is("set(1, -1)", x.set(1, -1), NONE);
        Check.is("set(1, 21)", x.set(1, 21), NONE);
        for (int i = 0; i < 5; i++) {
            x.ask(false, 7, 0, 0);
        }
        // 2 are kept: of 3 one is left for REQUESTS
        Check.is("tick(3)", x.tick(3), 1);
        Check.is("batch(1)", x.batch(1), 2);
        Check.is("set(1, 20)", x.set(1, 20), 2);
        Check.is("tick(21)", x.tick(21), 1);
        Check.is("STEPS", x.count(10), 2 + 20);
        Check.is("set(1, 0)", x.set(1, 0), 20);
        Check.is("tick(1)", x.tick(1), 1);
        Check.is("STEPS, none kept", x.count(10), 22);
    }

    /** "while GROWN": else all IOS are for REQUESTS. */
    private static void leastIsKeptWhileGrownAlone() {
        Check.part("LEAST while GROWN");
        GrowHouse x = Sample.small();
        x.set(1, 20);
        for (int i = 0; i < 6; i++) {
            x.ask(false, 7, 0, 0);
        }
        Check.is("tick(1), not GROWN", x.tick(1), 1);
        Check.is("tick(2), not GROWN", x.tick(2), 2);
        x.grow();
        Check.is("tick(20), GROWN", x.tick(20), 0);
        x.set(2, 60);
        x.steps(8);
        // the last STEP of 29 is done by this TICK: all were kept
        Check.is("tick(1), GROWN", x.tick(1), 0);
        Check.is("all NEW", x.count(3), 0);
        Check.is("tick(1), not GROWN", x.tick(1), 1);
    }

    /** "LEAST of these are kept": no more than there are. */
    private static void leastIsMoreThanThereAre() {
        Check.part("LEAST is more than there are");
        GrowHouse x = Sample.growing();
        x.set(1, 20);
        x.ask(false, 7, 0, 0);
        Check.is("tick(1)", x.tick(1), 0);
        Check.is("STEPS", x.count(10), 1);
        Check.is("tick(19)", x.tick(19), 0);
        Check.is("STEPS", x.count(10), 20);
        Check.is("tick(20)", x.tick(20), 0);
        Check.is("all NEW", x.count(3), 0);
    }

    /** "REQUESTS are served, in order, as long as the next one's cost is left" */
    private static void servedAsLongAsTheCostIsLeft() {
        Check.part("as long as the next one's cost is left");
        GrowHouse x = Sample.small();
        x.ask(false, 0, 0, 0);
        x.ask(true, 1, 50, 1);
        x.ask(false, 2, 0, 2);
        // 1 is left, the write costs 2, and the read behind it waits
        Check.is("tick(2)", x.tick(2), 1);
        Check.is("request(0, 0)", x.request(0, 0), 1);
        Check.is("read(1)", x.read(1), 11);
        Check.is("tick(1)", x.tick(1), 0);
        Check.is("tick(2), just its cost", x.tick(2), 1);
        Check.is("read(1)", x.read(1), 50);
        Check.is("tick(1)", x.tick(1), 1);
        Check.is("tick(60), none is there", x.tick(60), 0);
    }

    /** "a read costs 1": of a BLOCK that is MOVING, too. */
    private static void aReadCostsOne() {
        Check.part("a read costs 1");
        GrowHouse x = Sample.growing();
        x.set(1, 0);
        x.set(2, 1);
        x.ask(false, 0, 0, 0);
        Check.is("tick(1)", x.tick(1), 1);
        Check.is("STEPS", x.count(10), 0);
        x.steps(6);
        x.lose(0);
        // MOVING, all READ: nothing is REBUILT
        x.ask(false, 0, 0, 0);
        x.ask(false, 3, 0, 0);
        Check.is("tick(1)", x.tick(1), 1);
        Check.is("served(1, 1)", x.served(1, 1), 10);
        Check.is("tick(1)", x.tick(1), 1);
        Check.is("STEPS", x.count(10), 6);
    }

    /** "of a word that is REBUILT as many as are read for that" */
    private static void aRebuiltReadCostsItsReads() {
        Check.part("a read that is REBUILT");
        for (int m = 3; m <= 7; m++) {
            GrowHouse x = Sample.large(m);
            x.lose(0);
            x.ask(false, 0, 0, 0);
            Check.is("tick, one is missing", x.tick(m - 2), 0);
            Check.is("tick, " + m + " DISKS", x.tick(m - 1), 1);
            Check.is("its word", x.served(0, 1), 1);
        }
        // by its LAYOUT: BLOCK 0 is at NEW, BLOCK 6 at OLD places, both on DISK 0
        GrowHouse y = Sample.growing();
        y.steps(22);
        y.set(1, 0);
        y.lose(0);
        y.ask(false, 0, 0, 0);
        y.ask(false, 6, 0, 0);
        Check.is("tick(5)", y.tick(5), 2);
        Check.is("STEPS", y.count(10), 22);
    }

    /** "a write 2": whatever is read for it, or not laid. */
    private static void aWriteCostsTwo() {
        Check.part("a write costs 2");
        for (int lost = -1; lost < 6; lost++) {
            GrowHouse x = Sample.large(6);
            x.lose(lost);
            x.ask(true, 0, 5, 0);
            Check.is("tick(1), DISK " + lost + " LOST", x.tick(1), 0);
            Check.is("tick(2), DISK " + lost + " LOST", x.tick(2), 1);
            Check.is("read(0)", x.read(0), 5);
        }
    }

    /** "what can't be read, WRITTEN costs 1 and goes, too" */
    private static void whatCantBeCostsOne() {
        Check.part("what can't be costs 1");
        GrowHouse x = Sample.small();
        x.bad(0, 0);
        x.bad(1, 0);
        x.ask(false, 0, 0, 0);
        x.ask(true, 0, 5, 0);
        x.ask(false, 7, 0, 0);
        Check.is("tick(1), a read", x.tick(1), 1);
        Check.is("served(0, 0)", x.served(0, 0), 2);
        Check.is("tick(1), a write", x.tick(1), 1);
        Check.is("served(1, 0)", x.served(1, 0), 2);
        Check.is("nothing is laid", x.word(0, 0), 10);
        Check.is("tick(1), the next one", x.tick(1), 1);
        Check.is("served(2, 0)", x.served(2, 0), 0);
    }

    /** "then STEPS are done by what is left (with what was kept)" */
    private static void stepsTakeWhatIsLeft() {
        Check.part("STEPS by what is left");
        GrowHouse x = Sample.growing();
        x.ask(true, 7, 5, 0);
        // 10 less 2 for the write
        Check.is("tick(10)", x.tick(10), 1);
        Check.is("STEPS", x.count(10), 8);
        x.set(1, 0);
        x.ask(true, 7, 6, 0);
        Check.is("tick(2), nothing left", x.tick(2), 1);
        Check.is("STEPS", x.count(10), 8);
        x.ask(true, 7, 7, 0);
        // its cost is not left: that one goes to a STEP
        Check.is("tick(1)", x.tick(1), 0);
        Check.is("STEPS", x.count(10), 9);
    }

    /** "MOST (1 to 60; 20 at first) at most, each costs 1" */
    private static void stepsAreMostAtMost() {
        Check.part("MOST (1 to 60; 20 at first)");
        GrowHouse x = Sample.growing();
        Check.is("MOST at first", x.count(13), 20);
        Check.is("set(2, 0)", x.set(2, 0), NONE);
        Check.is("set(2, 61)", x.set(2, 61), NONE);
        x.tick(60);
        Check.is("STEPS", x.count(10), 20);
        Check.is("set(2, 1)", x.set(2, 1), 20);
        x.tick(60);
        Check.is("STEPS", x.count(10), 21);
        // LEAST is more than MOST
        x.set(1, 20);
        x.tick(20);
        Check.is("STEPS", x.count(10), 22);
        x.make(6, 40);
        x.grow();
        Check.is("set(2, 60)", x.set(2, 60), 20);
        x.tick(60);
        Check.is("STEPS", x.count(10), 60);
        x.tick(21);
        Check.is("STEPS", x.count(10), 81);
    }

    /** "A write of a BLOCK that is MOVING stays (others go ahead of it)." */
    private static void aWriteOfMovingStays() {
        Check.part("a write of a BLOCK that is MOVING stays");
        GrowHouse x = Sample.growing();
        x.steps(1);
        x.set(1, 1);
        x.set(2, 1);
        x.ask(true, 0, 5, 0);
        x.ask(true, 5, 5, 0);
        x.ask(false, 5, 0, 0);
        x.ask(true, 6, 60, 9);
        // 1 is kept, the read costs 1, the write of BLOCK 6 2
        Check.is("tick(4)", x.tick(4), 2);
        Check.is("REQUESTS", x.count(15), 2);
        Check.is("request(0, 0)", x.request(0, 0), 0);
        Check.is("request(1, 0)", x.request(1, 0), 1);
        Check.is("served(2, 1)", x.served(2, 1), 15);
        Check.is("read(6)", x.read(6), 60);
        Check.is("tick(60)", x.tick(60), 0);
        Check.missing("served(0, 0)", () -> x.served(0, 0));
        // a write that can't be is MOVING first of all
        x.bad(0, 0);
        x.bad(1, 0);
        Check.is("tick(60)", x.tick(60), 0);
    }

    /** "A write of a BLOCK that is MOVING stays": no longer than it is MOVING. */
    private static void aWriteOfMovingGoesBehindItsCheckpoint() {
        Check.part("a write of a BLOCK that was MOVING");
        GrowHouse x = Sample.growing();
        x.steps(20);
        x.ask(true, 5, 5, 0);
        Check.is("tick(2)", x.tick(2), 0);
        Check.is("BORDER", x.count(4), 2);
        Check.is("tick(4)", x.tick(4), 1);
        Check.is("served(0, 2)", x.served(0, 2), 2);
        Check.is("word(1, 1), by NEW", x.word(1, 1), 5);
    }

    private static void foretold() {
        scrubIsByNewBelowTheBorder();
        scrubLeavesOutWhatIsNotReadable();
        scrubLeavesOutTheBatchThatIsMoving();
        forecastCountsTicks();
        forecastHasRequestsAsTheyAre();
        forecastIsUnknownBehind400();
        imagesHoldAll();
        imagesDontHoldServedNorTape();
        spoiltByACrash();
        exposedByADisk();
        exposedIsNoneIfOneIsLost();
    }

    /** "SCRUB: ROWS whose STRIPE (below BORDER by NEW, else by OLD) has a PARITY that is not its words xor-ed" */
    private static void scrubIsByNewBelowTheBorder() {
        Check.part("SCRUB, below BORDER by NEW");
        GrowHouse x = Sample.growing();
        x.set(0, 1);
        x.steps(12);
        Check.scrubs(x);
        // DISK 3 is of ROW 0, not of ROW 1
        x.poke(3, 1, 99);
        Check.scrubs(x);
        x.poke(3, 0, 99);
        Check.scrubs(x, 0);
        x.poke(0, 1, 99);
        x.poke(2, 3, 99);
        Check.scrubs(x, 0, 1, 3);
        Check.is("repair()", x.repair(), 3);
        // PARITY of ROW 0 by NEW on DISK 3, of ROW 1 by OLD on DISK 1, of ROW 3 on DISK 2
        Check.is("word(3, 0)", x.word(3, 0), 10 ^ 11 ^ 12);
        Check.is("word(1, 1)", x.word(1, 1), 99 ^ 12);
        Check.is("word(2, 3)", x.word(2, 3), 16 ^ 17);
        Check.scrubs(x);
    }

    /** "those with a word that is not READABLE are left out" */
    private static void scrubLeavesOutWhatIsNotReadable() {
        Check.part("SCRUB, not READABLE");
        for (int disk = 0; disk < 3; disk++) {
            GrowHouse x = Sample.small();
            for (int row = 0; row < 4; row++) {
                x.poke(0, row, 99);
            }
            x.bad(disk, 1);
            Check.scrubs(x, 0, 2, 3);
            Check.is("repair()", x.repair(), 3);
            x.poke(0, 0, 98);
            x.lose(disk);
            Check.scrubs(x);
            Check.is("repair()", x.repair(), 0);
        }
        // DISK n is not of a STRIPE by OLD
        GrowHouse y = Sample.growing();
        y.poke(0, 1, 99);
        y.bad(3, 1);
        Check.scrubs(y, 1);
        y.lose(3);
        Check.scrubs(y, 1);
        Check.is("repair()", y.repair(), 1);
    }

    /** "and those of a BATCH that is MOVING" */
    private static void scrubLeavesOutTheBatchThatIsMoving() {
        Check.part("SCRUB, a BATCH that is MOVING");
        GrowHouse x = Sample.growing();
        for (int row = 0; row < 4; row++) {
            x.poke(0, row, 99);
        }
        Check.scrubs(x, 0, 1, 2, 3);
        x.steps(1);
        Check.scrubs(x, 2, 3);
        Check.is("repair()", x.repair(), 2);
        Check.is("laid(0), PARITY of ROW 2", x.laid(0), 6);
        x.crash();
        Check.scrubs(x, 0, 1);
        // the last BATCH: STRIPE 2 alone
        GrowHouse y = Sample.growing();
        y.steps(22);
        for (int row = 0; row < 4; row++) {
            y.poke(0, row, 99);
        }
        y.steps(1);
        Check.scrubs(y, 0, 1, 3);
    }

    /** "FORECAST of IOS: how many TICKS of so many it would take from now on till all is NEW" */
    private static void forecastCountsTicks() {
        Check.part("FORECAST");
        GrowHouse x = Sample.growing();
        x.set(2, 60);
        int[][] due = {{1, 29}, {2, 15}, {14, 3}, {15, 2}, {28, 2}, {29, 1}, {60, 1}};
        for (int[] one : due) {
            Check.is("forecast(" + one[0] + ")", x.forecast(one[0]), one[1]);
        }
        x.steps(28);
        Check.is("forecast(1), one STEP left", x.forecast(1), 1);
        x.steps(1);
        Check.is("forecast(1), all NEW", x.forecast(1), NONE);
    }

    /** "with REQUESTS as they are, no others" */
    private static void forecastHasRequestsAsTheyAre() {
        Check.part("FORECAST, REQUESTS as they are");
        GrowHouse x = Sample.growing();
        x.set(1, 1);
        x.set(2, 60);
        Check.is("forecast(29)", x.forecast(29), 1);
        x.ask(false, 7, 0, 0);
        Check.is("forecast(29)", x.forecast(29), 2);
        Check.is("forecast(30)", x.forecast(30), 1);
        for (int i = 0; i < 19; i++) {
            x.ask(true, 7, 0, 0);
        }
        // of 2 one is kept, one left for the read, then for none of the writes
        Check.is("forecast(2)", x.forecast(2), 15);
        // of 3 two are left, each TICK: the read (and a STEP more), then 19 writes, one a TICK, then STEPS alone
        Check.is("forecast(3)", x.forecast(3), 1 + 19 + 3);
        String before = Sample.told(x);
        GrowHouse y = Sample.growing();
        y.set(1, 1);
        y.set(2, 60);
        y.ask(false, 7, 0, 0);
        for (int i = 0; i < 19; i++) {
            y.ask(true, 7, 0, 0);
        }
        Check.same("what is told", before, Sample.told(y));
    }

    /** "UNKNOWN: more than 400" */
    private static void forecastIsUnknownBehind400() {
        Check.part("FORECAST, UNKNOWN");
        GrowHouse x = new GrowHouse();
        x.make(6, 40);
        x.grow();
        int ahead = x.batch(3) - 401;
        x.steps(Math.min(400, ahead));
        if (ahead > 400) {
            x.steps(ahead - 400);
        }
        Check.is("401 STEPS", x.batch(3), 401);
        Check.is("forecast(1)", x.forecast(1), -3);
        Check.is("forecast(2)", x.forecast(2), 201);
        x.steps(1);
        Check.is("forecast(1)", x.forecast(1), 400);
        // STUCK for ever
        x.bad(0, 39);
        x.bad(1, 39);
        x.bad(2, 39);
        Check.is("forecast(60)", x.forecast(60), -3);
        Check.is("TICKS", x.count(9), 0);
    }

    /** "IMAGES 0, 1: all that there is" */
    private static void imagesHoldAll() {
        Check.part("IMAGES hold all");
        for (int i = 0; i < 2; i++) {
            GrowHouse x = Sample.moving();
            x.image(i);
            x.image(1 - i);
            x.set(1, 9);
            x.set(2, 9);
            x.crash();
            x.set(0, 4);
            x.lose(1);
            x.steps(400);
            x.replace();
            x.ask(true, 1, 2, 3);
            x.fill(0, 12, 500);
            x.poke(3, 3, 9);
            x.bad(0, 0);
            x.repair();
            x.grow();
            x.steps(5);
            x.back(i);
            GrowHouse y = Sample.moving();
            y.image(i);
            y.image(1 - i);
            Check.same("what is told", Sample.told(x), Sample.told(y));
        }
    }

    /** "but what was SERVED and the TAPE" */
    private static void imagesDontHoldServedNorTape() {
        Check.part("IMAGES, but what was SERVED and the TAPE");
        GrowHouse x = Sample.small();
        x.feed(1, 2, 3);
        x.image(0);
        x.ask(false, 4, 0, 0);
        x.tick(1);
        x.feed(4, 5, 6);
        x.back(0);
        Check.is("TICKS", x.count(9), 0);
        Check.is("next number", x.count(5), 0);
        Check.is("served(0, 1)", x.served(0, 1), 14);
        Check.is("served(0, 2)", x.served(0, 2), 1);
        Check.is("bytes on the TAPE", x.count(16), 48);
    }

    /** "SPOILT by a CRASH: BLOCKS that can be read now, and could not, or otherwise, behind a CRASH." */
    private static void spoiltByACrash() {
        Check.part("SPOILT by a CRASH");
        GrowHouse x = Sample.growing();
        x.steps(6);
        Check.is("none", x.spoilt(), 0);
        x.poke(0, 0, 99);
        Check.is("BLOCK 0 otherwise", x.spoilt(), 1);
        x.bad(0, 0);
        Check.is("BLOCK 0 REBUILT", x.spoilt(), 0);
        x.bad(1, 0);
        Check.is("BLOCKS 0, 1 could not be read", x.spoilt(), 2);
        x.bad(0, 3);
        x.bad(1, 3);
        Check.is("BLOCKS 6, 7 can't be read now", x.spoilt(), 2);
        x.steps(7);
        Check.is("MARK", x.spoilt(), 0);
    }

    /** "EXPOSED by a DISK: BLOCKS that can be read now, and could not, or otherwise, were it LOST" */
    private static void exposedByADisk() {
        Check.part("EXPOSED by a DISK");
        GrowHouse x = Sample.small();
        Check.is("exposed(0)", x.exposed(0), 0);
        x.poke(2, 0, 99);
        Check.is("BLOCK 0 otherwise", x.exposed(0), 1);
        Check.is("BLOCK 1 otherwise", x.exposed(1), 1);
        Check.is("PARITY", x.exposed(2), 0);
        x.bad(2, 0);
        Check.is("BLOCK 0 could not be read", x.exposed(0), 1);
        x.bad(1, 0);
        // BLOCK 1 can't be read now
        Check.is("BLOCK 0 could not be read", x.exposed(0), 1);
        Check.is("exposed(1)", x.exposed(1), 0);
        Check.is("LOST", x.count(7), NONE);
    }

    /** "(0, if one is LOST)" */
    private static void exposedIsNoneIfOneIsLost() {
        Check.part("EXPOSED, one is LOST");
        GrowHouse x = Sample.small();
        x.poke(2, 0, 99);
        x.lose(2);
        for (int disk = 0; disk < 3; disk++) {
            Check.is("exposed(" + disk + ")", x.exposed(disk), 0);
        }
        Check.is("LOST", x.count(7), 2);
        x.replace();
        x.poke(2, 0, 99);
        Check.is("exposed(0), none is LOST", x.exposed(0), 1);
    }
}
