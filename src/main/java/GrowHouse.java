import java.util.Arrays;
import java.util.NoSuchElementException;

/** An array of disks with parity that is grown by a disk while it is in use; ../shared/DOC.md has its promises. */
public final class GrowHouse {
    public static final int NONE = -1;

    private static final int IS_MOVING = -3;
    private static final int UNKNOWN = -3;
    private static final int FEWEST_DISKS = 3;
    private static final int MOST_DISKS = 7;
    private static final int FEWEST_ROWS = 4;
    private static final int MOST_ROWS = 40;
    private static final int MOST_SIZE = 4;
    private static final int MOST_LEAST = 20;
    private static final int MOST_IOS = 60;
    private static final int MOST_STEPS = 400;
    private static final int MOST_FILLED = 200;
    private static final int MOST_TICKS = 400;
    private static final int MOST_REQUESTS = 20;
    private static final int MOST_URGENCY = 9;
    private static final int MOST_SERVED = 30;
    private static final int IMAGES = 2;
    private static final int MOST_TAPE = 264;
    private static final int FED = 24;
    private static final int MOST_SCRIPT = 240;
    private static final int MOST_DEEDS = 200;
    private static final int MOST_OPEN = 3;
    private static final int MOST_AGAIN = 20;
    private static final int MOST_NUMBER = 9999;
    private static final int MOST_DIGITS = 4;
    private static final int NUMBERS = 3;
    /** What comes of a REQUEST; the first three are told by served(). */
    private static final int IS_READ = 0;
    private static final int IS_WRITTEN = 1;
    private static final int FAILS = 2;
    private static final int STAYS = 3;
    private static final int FAULT_PLACE = 1;
    private static final int FAULT_NUMBER = 2;
    private static final int FAULT_DEPTH = 3;
    private static final Deed[] DEEDS = Deed.values();

    private final House now = new House();
    /** What is foretold is tried out on this one. */
    private final House spare = new House();
    private final House[] images = new House[IMAGES];
    private final boolean[] imageMade = new boolean[IMAGES];
    private final Served log = new Served();
    /** Takes what is served while a FORECAST is tried out. */
    private final Served unseen = new Served();
    private final Tape tape = new Tape();
    private final Script program = new Script();

    public GrowHouse() {
        for (int i = 0; i < IMAGES; i++) {
            images[i] = new House();
        }
    }

    public int make(int disks, int rows) {
        if (disks < FEWEST_DISKS || disks >= MOST_DISKS || rows < FEWEST_ROWS || rows > MOST_ROWS) {
            return NONE;
        }
        now.begin(disks, rows);
        log.clear();
        for (int i = 0; i < IMAGES; i++) {
            imageMade[i] = false;
        }
        return now.blocks();
    }

    public int set(int what, int v) {
        switch (what) {
            case 0: return now.changeSize(v);
            case 1: return now.changeLeast(v);
            case 2: return now.changeMost(v);
            default: return NONE;
        }
    }

    public int grow() {
        return now.beginGrowth();
    }

    public int steps(int n) {
        return now.goSteps(n);
    }

    public boolean crash() {
        return now.fallOver();
    }

    public int read(int block) throws NoSuchElementException {
        if (!now.hasBlock(block) || !now.canRead(block)) {
            throw new NoSuchElementException();
        }
        return now.wordOf(block);
    }

    public int write(int block, int word) {
        return now.storeOne(block, word);
    }

    public int fill(int block, int n, int word) {
        return now.storeRun(block, n, word);
    }

    public boolean lose(int disk) {
        return now.disks.loseOne(disk);
    }

    public int replace() {
        return now.replaceLost();
    }

    public boolean bad(int disk, int row) {
        return now.disks.spoil(disk, row);
    }

    public int ask(boolean write, int block, int word, int urgency) {
        return now.hasBlock(block) ? now.queue.add(write, block, word, urgency) : NONE;
    }

    public int tick(int ios) {
        return now.spend(ios, log);
    }

    public int served(int number, int what) throws NoSuchElementException {
        int slot = log.slotOf(number);
        if (slot == NONE || what < 0 || what > 2) {
            throw new NoSuchElementException();
        }
        return log.tell(slot, what);
    }

    public int request(int i, int what) {
        return i == NONE ? now.queue.size : now.queue.tell(i, what);
    }

    public boolean poke(int disk, int row, int word) {
        return now.disks.put(disk, row, word);
    }

    public int scrub(int i) {
        return now.rowOfScrub(i);
    }

    public int repair() {
        return now.layParities();
    }

    public int forecast(int ios) {
        if (!now.grown || ios < 1 || ios > MOST_IOS) {
            return NONE;
        }
        spare.copyFrom(now);
        for (int ticks = 1; ticks <= MOST_TICKS; ticks++) {
            spare.spend(ios, unseen);
            if (!spare.grown) {
                return ticks;
            }
        }
        return UNKNOWN;
    }

    public boolean image(int i) {
        if (i < 0 || i >= IMAGES) {
            return false;
        }
        images[i].copyFrom(now);
        imageMade[i] = true;
        return true;
    }

    public boolean back(int i) {
        if (i < 0 || i >= IMAGES || !imageMade[i]) {
            return false;
        }
        now.copyFrom(images[i]);
        return true;
    }

    public int feed(long a, long b, long c) {
        if (tape.length + FED > MOST_TAPE) {
            return NONE;
        }
        tape.append(a);
        tape.append(b);
        tape.append(c);
        return tape.length;
    }

    public int end(int n) {
        if (n < 0 || n > tape.length) {
            return NONE;
        }
        tape.length = n;
        return n;
    }

    public int script() {
        if (tape.length > MOST_SCRIPT) {
            return NONE;
        }
        program.compile(tape);
        tape.length = 0;
        if (program.fault != 0) {
            return -2 - program.fault;
        }
        for (int done = 0; done < MOST_DEEDS; done++) {
            Deed deed = program.nextDeed();
            if (deed == null || !perform(deed, program.number(0), program.number(1), program.number(2))) {
                return done;
            }
        }
        return MOST_DEEDS;
    }

    public int laid(int disk) {
        return now.disks.hasDisk(disk) ? now.disks.laidOn[disk] : NONE;
    }

    public int of(int block, int what) {
        return now.hasBlock(block) ? now.tellOfBlock(block, what) : NONE;
    }

    public int word(int disk, int row) throws NoSuchElementException {
        if (!now.disks.has(disk, row)) {
            throw new NoSuchElementException();
        }
        return now.disks.words[disk * MOST_ROWS + row];
    }

    public int badAt(int i) {
        return i == NONE ? now.disks.badWords() : now.disks.badWord(i);
    }

    public int spoilt() {
        if (!now.grown) {
            return NONE;
        }
        spare.copyFrom(now);
        spare.fallOver();
        return now.blocksLostIn(spare);
    }

    public int exposed(int disk) {
        if (!now.disks.hasDisk(disk)) {
            return NONE;
        }
        if (now.disks.lost != NONE) {
            return 0;
        }
        spare.copyFrom(now);
        spare.disks.lost = disk;
        return now.blocksLostIn(spare);
    }

    public int batch(int what) {
        return now.grown ? now.tellOfBatch(what) : NONE;
    }

    public int count(int what) {
        return what == 16 ? tape.length : now.tellCount(what);
    }

    /** Whether a DEED of a SCRIPT was taken, not refused. */
    private boolean perform(Deed deed, int a, int b, int c) {
        switch (deed) {
            case GROW: return now.beginGrowth() != NONE;
            case CRASH: return now.fallOver();
            case REPLACE: return now.replaceLost() != NONE;
            case REPAIR: return now.layParities() != NONE;
            case STEPS: return now.goSteps(a) != NONE;
            case TICK: return now.spend(a, log) != NONE;
            case LOSE: return now.disks.loseOne(a);
            case WRITE: return now.storeOne(a, b) == 1;
            case FILL: return now.storeRun(a, b, c) != NONE;
            case BAD: return now.disks.spoil(a, b);
            case IMAGE: return image(a);
            case BACK: return back(a);
            default: return false;
        }
    }

    /** Where a LAYOUT of so many DISKS has its BLOCKS and PARITY; it never changes, so that houses may share it. */
    private static final class Layout {
        final int disks;
        /** BLOCKS of a STRIPE. */
        final int width;

        Layout(int disks) {
            // both are divisors: fewer than three DISKS can't be
            this.disks = disks < FEWEST_DISKS ? FEWEST_DISKS : disks;
            this.width = this.disks - 1;
        }

        int rowOf(int block) {
            return block / width;
        }

        int parityDisk(int row) {
            return disks - 1 - row % disks;
        }

        int diskOf(int block) {
            return (parityDisk(block / width) + 1 + block % width) % disks;
        }
    }

    /** The words as they lie on the DISKS, which of them are BAD, which DISK is LOST. */
    private static final class Disks {
        final int[] words = new int[MOST_DISKS * MOST_ROWS];
        /** 1: BAD. */
        final int[] flaws = new int[MOST_DISKS * MOST_ROWS];
        final int[] laidOn = new int[MOST_DISKS];
        /** DISKS, with the one that comes while GROWN; 7 at most. */
        int number;
        /** 40 at most. */
        int rows;
        int lost = NONE;

        void clear(int disks, int rowsOfEach) {
            Arrays.fill(words, 0);
            Arrays.fill(flaws, 0);
            Arrays.fill(laidOn, 0);
            number = disks;
            rows = rowsOfEach;
            lost = NONE;
        }

        void copyFrom(Disks other) {
            System.arraycopy(other.words, 0, words, 0, words.length);
            System.arraycopy(other.flaws, 0, flaws, 0, flaws.length);
            System.arraycopy(other.laidOn, 0, laidOn, 0, laidOn.length);
            number = other.number;
            rows = other.rows;
            lost = other.lost;
        }

        boolean hasDisk(int disk) {
            return disk >= 0 && disk < number;
        }

        boolean has(int disk, int row) {
            return disk >= 0 && disk < number && row >= 0 && row < rows;
        }

        boolean readable(int disk, int row) {
            return disk >= 0 && disk < number && row >= 0 && row < rows
                && disk != lost && flaws[disk * MOST_ROWS + row] == 0;
        }

        /** Words of a STRIPE that are not READABLE: if there is but one, it can be REBUILT. */
        int gaps(Layout by, int row) {
            if (row < 0 || row >= rows) {
                return by.disks;
            }
            int many = 0;
            for (int disk = 0; disk < by.disks && disk < number; disk++) {
                if (disk == lost || flaws[disk * MOST_ROWS + row] != 0) {
                    many++;
                }
            }
            return many;
        }

        /** All words of a STRIPE but that on a DISK (NONE: all), xor-ed. */
        int xoredBut(Layout by, int but, int row) {
            if (row < 0 || row >= rows) {
                return 0;
            }
            int sum = 0;
            for (int disk = 0; disk < by.disks && disk < number; disk++) {
                if (disk != but) {
                    sum ^= words[disk * MOST_ROWS + row];
                }
            }
            return sum;
        }

        /** How many words are read for one: 1, the others of its STRIPE if it is REBUILT, 0 if it can't be read. */
        int readsFor(Layout by, int disk, int row) {
            if (readable(disk, row)) {
                return 1;
            }
            return gaps(by, row) == 1 ? by.width : 0;
        }

        /** A word as it is read, or REBUILT; of one that can't be read it tells nothing. */
        int valueOf(Layout by, int disk, int row) {
            return readable(disk, row) ? words[disk * MOST_ROWS + row] : xoredBut(by, disk, row);
        }

        boolean canStore(Layout by, int block) {
            int row = by.rowOf(block);
            if (gaps(by, row) <= 1) {
                return true;
            }
            int own = by.diskOf(block);
            int parityDisk = by.parityDisk(row);
            for (int disk = 0; disk < by.disks; disk++) {
                if (disk != own && disk != parityDisk && !readable(disk, row)) {
                    return false;
                }
            }
            return true;
        }

        /** Only behind canStore. PARITY is known before anything is laid: a word may be REBUILT by what is laid over. */
        void store(Layout by, int block, int word) {
            int row = by.rowOf(block);
            int own = by.diskOf(block);
            int parityDisk = by.parityDisk(row);
            int parity = word;
            for (int disk = 0; disk < by.disks; disk++) {
                if (disk != own && disk != parityDisk) {
                    parity ^= valueOf(by, disk, row);
                }
            }
            lay(own, row, word);
            lay(parityDisk, row, parity);
        }

        void lay(int disk, int row, int word) {
            if (put(disk, row, word)) {
                laidOn[disk]++;
            }
        }

        boolean put(int disk, int row, int word) {
            if (disk < 0 || disk >= number || row < 0 || row >= rows || disk == lost) {
                return false;
            }
            words[disk * MOST_ROWS + row] = word;
            flaws[disk * MOST_ROWS + row] = 0;
            return true;
        }

        boolean spoil(int disk, int row) {
            if (!readable(disk, row)) {
                return false;
            }
            flaws[disk * MOST_ROWS + row] = 1;
            return true;
        }

        boolean loseOne(int disk) {
            if (lost != NONE || !hasDisk(disk)) {
                return false;
            }
            lost = disk;
            return true;
        }

        /** Nothing is ever laid behind the last DISK, so the one that comes is all 0. */
        void addDisk() {
            if (number < MOST_DISKS) {
                number++;
            }
        }

        /** A word of the LOST DISK is made anew: whether it is good. */
        boolean rebuild(Layout by, int row) {
            if (!has(lost, row)) {
                return true;
            }
            boolean inStripe = lost < by.disks;
            boolean good = !inStripe || gaps(by, row) == 1;
            words[lost * MOST_ROWS + row] = inStripe && good ? xoredBut(by, lost, row) : 0;
            flaws[lost * MOST_ROWS + row] = good ? 0 : 1;
            return good;
        }

        /** On a LOST DISK too. */
        void clearRowsFrom(int first) {
            for (int disk = 0; disk < number; disk++) {
                for (int row = Math.max(first, 0); row < rows; row++) {
                    words[disk * MOST_ROWS + row] = 0;
                    flaws[disk * MOST_ROWS + row] = 0;
                }
            }
        }

        /** All words of a ROW are READABLE, and its PARITY is not the others xor-ed. */
        boolean mismatched(Layout by, int row) {
            return gaps(by, row) == 0 && xoredBut(by, NONE, row) != 0;
        }

        void layParity(Layout by, int row) {
            int disk = by.parityDisk(row);
            lay(disk, row, xoredBut(by, disk, row));
        }

        int badWords() {
            int many = 0;
            for (int i = 0; i < flaws.length; i++) {
                many += flaws[i];
            }
            return many;
        }

        int badWord(int i) {
            int seen = 0;
            for (int row = 0; row < rows; row++) {
                for (int disk = 0; disk < number; disk++) {
                    if (flaws[disk * MOST_ROWS + row] != 0) {
                        if (seen == i) {
                            return 100 * row + disk;
                        }
                        seen++;
                    }
                }
            }
            return NONE;
        }
    }

    /** What the BATCH from a border on has to do. */
    private static final class Batch {
        int first;
        int stripes;
        int words;
        int reads;
        /** STEPS ahead of WRITE. */
        int ahead;
        int allSteps;
        boolean critical;

        void plan(Layout old, Layout next, int rows, int border, int size) {
            int blocks = rows * old.width;
            int allStripes = (blocks + next.width - 1) / next.width;
            first = border * next.width;
            stripes = size < allStripes - border ? size : allStripes - border;
            words = stripes * next.width;
            reads = words < blocks - first ? words : blocks - first;
            critical = first / old.width <= border + stripes - 1;
            ahead = critical ? reads + words + 1 : reads;
            allSteps = ahead + stripes * next.disks + 1;
        }
    }

    /** REQUESTS in the order in which they are served. */
    private static final class Queue {
        static final int NUMBER = 0;
        static final int BLOCK = 1;
        static final int URGENCY = 2;
        static final int WRITES = 3;
        static final int WORD = 4;
        static final int PARTS = 5;

        final int[] parts = new int[MOST_REQUESTS * PARTS];
        int size;
        int nextNumber;

        void copyFrom(Queue other) {
            System.arraycopy(other.parts, 0, parts, 0, parts.length);
            size = other.size;
            nextNumber = other.nextNumber;
        }

        int add(boolean write, int block, int word, int urgency) {
            if (urgency < 0 || urgency > MOST_URGENCY || size < 0 || size >= MOST_REQUESTS) {
                return NONE;
            }
            int at = placeFor(urgency) * PARTS;
            System.arraycopy(parts, at, parts, at + PARTS, size * PARTS - at);
            parts[at + NUMBER] = nextNumber;
            parts[at + BLOCK] = block;
            parts[at + URGENCY] = urgency;
            parts[at + WRITES] = write ? 1 : 0;
            parts[at + WORD] = word;
            size++;
            nextNumber++;
            return nextNumber - 1;
        }

        /** Behind all that are as urgent, since these were told before. */
        int placeFor(int urgency) {
            for (int i = 0; i < size; i++) {
                if (part(i, URGENCY) > urgency) {
                    return i;
                }
            }
            return size;
        }

        int part(int i, int what) {
            return i < 0 || i >= size || what < 0 || what >= PARTS ? NONE : parts[i * PARTS + what];
        }

        /** The word of a REQUEST is not told. */
        int tell(int i, int what) {
            return what == WORD ? NONE : part(i, what);
        }

        void remove(int i) {
            if (i < 0 || i >= size) {
                return;
            }
            int behind = (i + 1) * PARTS;
            System.arraycopy(parts, behind, parts, i * PARTS, size * PARTS - behind);
            size--;
        }
    }

    /** The latest REQUESTS that were served; the newest one takes the oldest one's slot. */
    private static final class Served {
        static final int NUMBER = 3;
        static final int PARTS = 4;

        /** Kind, word and TICK of each, as served() tells them, and its number. */
        final int[] parts = new int[MOST_SERVED * PARTS];
        int size;
        int nextSlot;

        void clear() {
            size = 0;
            nextSlot = 0;
        }

        void record(int number, int kind, int word, int tick) {
            int at = nextSlot * PARTS;
            parts[at] = kind;
            parts[at + 1] = word;
            parts[at + 2] = tick;
            parts[at + NUMBER] = number;
            nextSlot = nextSlot < MOST_SERVED - 1 ? nextSlot + 1 : 0;
            size = size < MOST_SERVED ? size + 1 : MOST_SERVED;
        }

        /** The latest of a number: behind back() numbers are given again. */
        int slotOf(int number) {
            for (int age = 1; age <= size; age++) {
                int slot = nextSlot >= age ? nextSlot - age : nextSlot - age + MOST_SERVED;
                if (tell(slot, NUMBER) == number) {
                    return slot;
                }
            }
            return NONE;
        }

        int tell(int slot, int what) {
            return slot < 0 || slot >= MOST_SERVED || what < 0 || what >= PARTS ? NONE : parts[slot * PARTS + what];
        }
    }

    /** All that an IMAGE holds: DISKS, how far they are GROWN, REQUESTS. */
    private static final class House {
        final Disks disks = new Disks();
        final Queue queue = new Queue();
        final Layout[] layouts = new Layout[MOST_DISKS + 1];
        /** The words of the BATCH that were READ; they stay till its CHECKPOINT, so they are its BACKUP as well. */
        final int[] moved = new int[MOST_SIZE * (MOST_DISKS - 1)];
        final Batch batch = new Batch();
        /** A BATCH that is only thought of. */
        final Batch later = new Batch();
        Layout old;
        Layout next;
        boolean grown;
        int border;
        int size;
        /** STEPS of the BATCH that were done. */
        int done;
        boolean mark;
        int least;
        int most;
        int ticks;
        int stepsInAll;

        House() {
            for (int number = 0; number < layouts.length; number++) {
                layouts[number] = new Layout(number);
            }
            begin(4, 12);
        }

        void begin(int number, int rows) {
            disks.clear(number, rows);
            queue.size = 0;
            queue.nextNumber = 0;
            old = layoutOf(number);
            next = old;
            grown = false;
            border = 0;
            size = 2;
            done = 0;
            mark = false;
            least = 2;
            most = 20;
            ticks = 0;
            stepsInAll = 0;
        }

        void copyFrom(House other) {
            disks.copyFrom(other.disks);
            queue.copyFrom(other.queue);
            System.arraycopy(other.moved, 0, moved, 0, moved.length);
            old = other.old;
            next = other.next;
            grown = other.grown;
            border = other.border;
            size = other.size;
            done = other.done;
            mark = other.mark;
            least = other.least;
            most = other.most;
            ticks = other.ticks;
            stepsInAll = other.stepsInAll;
            planBatch();
        }

        Layout layoutOf(int number) {
            return number < 0 || number >= layouts.length ? layouts[0] : layouts[number];
        }

        /** Due whenever GROWN, BORDER or SIZE are other than they were. */
        void planBatch() {
            if (grown) {
                batch.plan(old, next, disks.rows, border, size);
            }
        }

        int blocks() {
            return disks.rows * old.width;
        }

        int newStripes() {
            return (disks.rows * old.width + next.width - 1) / next.width;
        }

        boolean hasBlock(int block) {
            return block >= 0 && block < blocks();
        }

        boolean anyMoving() {
            return grown && done > 0;
        }

        boolean isMoving(int block) {
            return anyMoving() && block >= batch.first && block < batch.first + batch.words;
        }

        /** MOVING, and read as the word that was READ. */
        boolean isHeld(int block) {
            return isMoving(block) && done >= batch.reads && block - batch.first < moved.length;
        }

        boolean isNew(int block) {
            return grown && block < border * next.width;
        }

        Layout layoutAt(int block) {
            return isNew(block) ? next : old;
        }

        Layout layoutOfRow(int row) {
            return row < border ? next : old;
        }

        /** Words that are read for a BLOCK that is not held: 0, if it can't be read. */
        int readsFor(int block) {
            Layout by = layoutAt(block);
            return disks.readsFor(by, by.diskOf(block), by.rowOf(block));
        }

        boolean canRead(int block) {
            return isHeld(block) || readsFor(block) > 0;
        }

        int wordOf(int block) {
            if (isHeld(block)) {
                return moved[block - batch.first];
            }
            Layout by = layoutAt(block);
            return disks.valueOf(by, by.diskOf(block), by.rowOf(block));
        }

        int storeOne(int block, int word) {
            if (!hasBlock(block)) {
                return NONE;
            }
            if (isMoving(block)) {
                return IS_MOVING;
            }
            Layout by = layoutAt(block);
            if (!disks.canStore(by, block)) {
                return 0;
            }
            disks.store(by, block, word);
            return 1;
        }

        int storeRun(int block, int n, int word) {
            if (n < 1 || n > MOST_FILLED || block < 0 || block > blocks() - n) {
                return NONE;
            }
            int stored = 0;
            for (int i = 0; i < n; i++) {
                if (storeOne(block + i, word + i) == 1) {
                    stored++;
                }
            }
            return stored;
        }

        int changeSize(int v) {
            if (v < 1 || v > MOST_SIZE || anyMoving()) {
                return NONE;
            }
            int was = size;
            size = v;
            planBatch();
            return was;
        }

        int changeLeast(int v) {
            if (v < 0 || v > MOST_LEAST) {
                return NONE;
            }
            int was = least;
            least = v;
            return was;
        }

        int changeMost(int v) {
            if (v < 1 || v > MOST_IOS) {
                return NONE;
            }
            int was = most;
            most = v;
            return was;
        }

        int beginGrowth() {
            if (grown || disks.number >= MOST_DISKS || disks.lost != NONE) {
                return NONE;
            }
            disks.addDisk();
            next = layoutOf(disks.number);
            grown = true;
            border = 0;
            done = 0;
            mark = false;
            planBatch();
            return newStripes();
        }

        int goSteps(int n) {
            if (n < 1 || n > MOST_STEPS || !grown) {
                return NONE;
            }
            for (int gone = 0; gone < n; gone++) {
                if (!grown || isStuck()) {
                    return gone;
                }
                goOneStep();
            }
            return n;
        }

        boolean isStuck() {
            return done < batch.reads && readsFor(batch.first + done) == 0;
        }

        /** Only if it is not STUCK. A BACKUP has nothing to do: the words that were READ are kept as it. */
        void goOneStep() {
            stepsInAll++;
            int step = done;
            done++;
            if (step < batch.reads) {
                readNext(step);
            } else if (step == batch.allSteps - 1) {
                checkpoint();
            } else if (step >= batch.ahead) {
                writeNext(step - batch.ahead);
            } else if (step == batch.ahead - 1) {
                mark = true;
            }
        }

        /** The words behind the last BLOCK are never READ: they are cleared with the first one. */
        void readNext(int k) {
            if (k == 0) {
                Arrays.fill(moved, 0);
            }
            if (k >= 0 && k < moved.length) {
                int block = batch.first + k;
                moved[k] = disks.valueOf(old, old.diskOf(block), old.rowOf(block));
            }
        }

        /** The k-th word of WRITE; of each STRIPE the last one is PARITY. */
        void writeNext(int k) {
            int stripe = k / next.disks;
            int place = k % next.disks;
            int row = border + stripe;
            int from = stripe * next.width;
            int parityDisk = next.parityDisk(row);
            if (place == next.width) {
                disks.lay(parityDisk, row, movedXored(from));
            } else if (from + place >= 0 && from + place < moved.length) {
                disks.lay((parityDisk + 1 + place) % next.disks, row, moved[from + place]);
            }
        }

        int movedXored(int from) {
            int sum = 0;
            for (int i = from; i < from + next.width; i++) {
                sum ^= i >= 0 && i < moved.length ? moved[i] : 0;
            }
            return sum;
        }

        void checkpoint() {
            border += batch.stripes;
            done = 0;
            mark = false;
            int end = newStripes();
            if (border >= end) {
                disks.clearRowsFrom(end);
                old = next;
                grown = false;
                border = 0;
            }
            planBatch();
        }

        boolean fallOver() {
            if (!grown) {
                return false;
            }
            queue.size = 0;
            done = mark ? batch.ahead : 0;
            return true;
        }

        int replaceLost() {
            if (disks.lost == NONE || anyMoving()) {
                return NONE;
            }
            int spoilt = 0;
            for (int row = 0; row < disks.rows; row++) {
                if (!disks.rebuild(layoutOfRow(row), row)) {
                    spoilt++;
                }
            }
            disks.lost = NONE;
            return spoilt;
        }

        /** A TICK. */
        int spend(int ios, Served log) {
            if (ios < 1 || ios > MOST_IOS) {
                return NONE;
            }
            ticks++;
            int kept = grown ? Math.min(least, ios) : 0;
            int left = ios - kept;
            int before = queue.size;
            int i = 0;
            for (int turn = 0; turn < before; turn++) {
                int fate = fateOf(i);
                if (fate == STAYS) {
                    i++;
                    continue;
                }
                int cost = costOf(i, fate);
                if (cost > left) {
                    break;
                }
                left -= cost;
                serve(i, fate, log);
            }
            goSteps(Math.min(left + kept, most));
            return before - queue.size;
        }

        int fateOf(int i) {
            int block = queue.part(i, Queue.BLOCK);
            if (queue.part(i, Queue.WRITES) == 0) {
                return canRead(block) ? IS_READ : FAILS;
            }
            if (isMoving(block)) {
                return STAYS;
            }
            return disks.canStore(layoutAt(block), block) ? IS_WRITTEN : FAILS;
        }

        int costOf(int i, int fate) {
            if (fate == IS_WRITTEN) {
                return 2;
            }
            int block = queue.part(i, Queue.BLOCK);
            return fate == FAILS || isHeld(block) ? 1 : readsFor(block);
        }

        void serve(int i, int fate, Served log) {
            int block = queue.part(i, Queue.BLOCK);
            int word = 0;
            if (fate == IS_WRITTEN) {
                word = queue.part(i, Queue.WORD);
                disks.store(layoutAt(block), block, word);
            } else if (fate == IS_READ) {
                word = wordOf(block);
            }
            log.record(queue.part(i, Queue.NUMBER), fate, word, ticks);
            queue.remove(i);
        }

        boolean isOfScrub(int row) {
            if (anyMoving() && row >= border && row < border + batch.stripes) {
                return false;
            }
            return disks.mismatched(layoutOfRow(row), row);
        }

        /** NONE: how many. */
        int rowOfScrub(int i) {
            int seen = 0;
            for (int row = 0; row < disks.rows; row++) {
                if (isOfScrub(row)) {
                    if (seen == i) {
                        return row;
                    }
                    seen++;
                }
            }
            return i == NONE ? seen : NONE;
        }

        int layParities() {
            int repaired = 0;
            for (int row = 0; row < disks.rows; row++) {
                if (isOfScrub(row)) {
                    disks.layParity(layoutOfRow(row), row);
                    repaired++;
                }
            }
            return repaired;
        }

        /** BLOCKS that can be read here, and there can't be, or are other words. */
        int blocksLostIn(House there) {
            int many = 0;
            for (int block = 0; block < blocks(); block++) {
                if (canRead(block) && (!there.canRead(block) || there.wordOf(block) != wordOf(block))) {
                    many++;
                }
            }
            return many;
        }

        int unreadableBlocks() {
            int many = 0;
            for (int block = 0; block < blocks(); block++) {
                if (!canRead(block)) {
                    many++;
                }
            }
            return many;
        }

        int tellOfBlock(int block, int what) {
            Layout by = layoutAt(block);
            switch (what) {
                case 0: return isNew(block) ? 1 : 0;
                case 1: return by.diskOf(block);
                case 2: return by.rowOf(block);
                case 3: return isMoving(block) ? 1 : 0;
                case 4: return isHeld(block) ? 0 : readsFor(block);
                default: return NONE;
            }
        }

        /** Only while GROWN. */
        int tellOfBatch(int what) {
            switch (what) {
                case 0: return batch.allSteps;
                case 1: return done;
                case 2: return batch.critical ? 1 : 0;
                case 3:
                case 4:
                case 5: return tellOfBatchesLeft(what);
                case 6: return isStuck() ? 1 : 0;
                case 7: return mark ? 1 : 0;
                default: return NONE;
            }
        }

        int tellOfBatchesLeft(int what) {
            int stepsLeft = -done;
            int criticals = 0;
            int largestBackup = 0;
            int from = border;
            int end = newStripes();
            for (int turn = 0; turn < MOST_ROWS && from < end; turn++) {
                later.plan(old, next, disks.rows, from, size);
                stepsLeft += later.allSteps;
                if (later.critical) {
                    criticals++;
                    largestBackup = Math.max(largestBackup, later.words);
                }
                from += later.stripes;
            }
            return what == 3 ? stepsLeft : what == 4 ? criticals : largestBackup;
        }

        int tellCount(int what) {
            switch (what) {
                case 0: return disks.number;
                case 1: return disks.rows;
                case 2: return blocks();
                case 3: return grown ? 1 : 0;
                case 4: return border;
                case 5: return queue.nextNumber;
                case 6: return grown ? newStripes() : NONE;
                case 7: return disks.lost;
                case 8: return disks.badWords();
                case 9: return ticks;
                case 10: return stepsInAll;
                case 11: return size;
                case 12: return least;
                case 13: return most;
                case 14: return unreadableBlocks();
                case 15: return queue.size;
                default: return NONE;
            }
        }
    }

    /** Bytes that were fed and are not yet done as a SCRIPT. */
    private static final class Tape {
        final byte[] bytes = new byte[MOST_TAPE];
        int length;

        void append(long eight) {
            for (int shift = 56; shift >= 0 && length < MOST_TAPE; shift -= 8) {
                bytes[length] = (byte) (eight >>> shift);
                length++;
            }
        }

        /** NONE behind the end. */
        int at(int place) {
            return place < 0 || place >= length ? NONE : bytes[place] & 255;
        }
    }

    /** The words of a SCRIPT, and how many numbers are behind each. */
    private enum Deed {
        GROW("grow", 0),
        CRASH("crash", 0),
        REPLACE("replace", 0),
        REPAIR("repair", 0),
        STEPS("steps", 1),
        TICK("tick", 1),
        LOSE("lose", 1),
        WRITE("write", 2),
        FILL("fill", 3),
        BAD("bad", 2),
        IMAGE("image", 1),
        BACK("back", 1),
        AGAIN("again", 1),
        /** The end of an AGAIN: no word of small letters is spelt so. */
        CLOSE("]", 0);

        final String spelling;
        final int numbers;

        Deed(String spelling, int numbers) {
            this.spelling = spelling;
            this.numbers = numbers;
        }
    }

    /** A SCRIPT in lines, one a DEED or the end of an AGAIN, and how far it was done. */
    private static final class Script {
        final Deed[] deeds = new Deed[MOST_SCRIPT];
        final int[] numbers = new int[MOST_SCRIPT * NUMBERS];
        /** Of the end of an AGAIN: the line of that. */
        final int[] partners = new int[MOST_SCRIPT];
        /** Of an AGAIN: how many rounds are left. */
        final int[] rounds = new int[MOST_SCRIPT];
        /** The lines of those AGAINs that are open. */
        final int[] open = new int[MOST_OPEN];
        int depth;
        int lines;
        int place;
        /** 8 * place + kind; 0: none. */
        int fault;
        /** The line that is done. */
        int line;

        void compile(Tape text) {
            depth = 0;
            lines = 0;
            place = 0;
            fault = 0;
            line = NONE;
            skipBlanks(text);
            // a DEED has two bytes at least, so there are turns enough
            for (int turn = 0; turn < MOST_SCRIPT && fault == 0 && (depth > 0 || place < text.length); turn++) {
                takeDeed(text);
                skipBlanks(text);
            }
        }

        /** The first one along the text counts. */
        void blame(int at, int kind) {
            if (fault == 0) {
                fault = 8 * at + kind;
            }
        }

        void skipBlanks(Tape text) {
            while (place < text.length && text.at(place) == ' ') {
                place++;
            }
        }

        void takeDeed(Tape text) {
            if (depth > 0 && text.at(place) == ']') {
                takeClose(text);
                return;
            }
            int start = place;
            Deed deed = takeWord(text);
            if (deed == null) {
                blame(start, FAULT_PLACE);
                return;
            }
            if (deed == Deed.AGAIN && depth >= MOST_OPEN) {
                blame(start, FAULT_DEPTH);
                return;
            }
            int added = addLine(deed);
            for (int k = 0; k < deed.numbers && k < NUMBERS; k++) {
                numbers[added * NUMBERS + k] = takeNumber(text, deed == Deed.AGAIN ? MOST_AGAIN : MOST_NUMBER);
            }
            takeSign(text, deed == Deed.AGAIN ? '[' : ';');
            if (deed == Deed.AGAIN) {
                open[depth] = added;
                depth++;
            }
        }

        /** Only while one is open. What is never done leaves no line, so each AGAIN that does has a DEED in each round. */
        void takeClose(Tape text) {
            place++;
            depth--;
            int again = open[depth];
            if (lines == again + 1 || numbers[again * NUMBERS] == 0) {
                lines = again;
            } else {
                int added = addLine(Deed.CLOSE);
                partners[added] = again;
            }
            takeSign(text, ';');
        }

        /** A line has two bytes at least, so there is room. */
        int addLine(Deed deed) {
            int added = lines < MOST_SCRIPT ? lines : MOST_SCRIPT - 1;
            deeds[added] = deed;
            lines = added + 1;
            return added;
        }

        /** null: no word, or none of a DEED. */
        Deed takeWord(Tape text) {
            int start = place;
            while (place < text.length && text.at(place) >= 'a' && text.at(place) <= 'z') {
                place++;
            }
            for (int i = 0; i < DEEDS.length; i++) {
                if (isSpelt(text, start, DEEDS[i].spelling)) {
                    return DEEDS[i];
                }
            }
            return null;
        }

        boolean isSpelt(Tape text, int start, String spelling) {
            if (place - start != spelling.length()) {
                return false;
            }
            for (int i = 0; i < spelling.length(); i++) {
                if (text.at(start + i) != spelling.charAt(i)) {
                    return false;
                }
            }
            return true;
        }

        int takeNumber(Tape text, int highest) {
            skipBlanks(text);
            int start = place;
            int value = 0;
            while (place < text.length && text.at(place) >= '0' && text.at(place) <= '9') {
                value = 10 * value + text.at(place) - '0';
                place++;
            }
            if (place == start) {
                blame(start, FAULT_PLACE);
            } else if (place - start > MOST_DIGITS || value > highest) {
                blame(start, FAULT_NUMBER);
            }
            return value;
        }

        void takeSign(Tape text, char sign) {
            skipBlanks(text);
            if (text.at(place) == sign) {
                place++;
            } else {
                blame(place, FAULT_PLACE);
            }
        }

        /** The next DEED to be done, AGAINs being gone through; null behind the last one. */
        Deed nextDeed() {
            // three AGAINs at most are ended and three begun between two DEEDS
            for (int turn = 0; turn < MOST_SCRIPT; turn++) {
                line++;
                if (line < 0 || line >= lines) {
                    return null;
                }
                if (deeds[line] == Deed.AGAIN) {
                    rounds[line] = numbers[line * NUMBERS];
                } else if (deeds[line] == Deed.CLOSE) {
                    endRound();
                } else {
                    return deeds[line];
                }
            }
            return null;
        }

        void endRound() {
            int again = partners[line];
            rounds[again]--;
            if (rounds[again] > 0) {
                line = again;
            }
        }

        /** The k-th number of the DEED that is done; what stands there for one that has fewer is not used. */
        int number(int k) {
            int at = line * NUMBERS + k;
            return at < 0 || at >= numbers.length ? 0 : numbers[at];
        }
    }
}
