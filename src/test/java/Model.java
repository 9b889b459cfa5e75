import java.util.ArrayList;
import java.util.Comparator;
import java.util.List;
import java.util.NoSuchElementException;

/** A second reading of the document, written for plainness alone: each BATCH is a list of STEPS, a SCRIPT a tree. */
final class Model {
    static final int NONE = -1;

    enum Kind { READ, BACKUP, MARK, WORD, PARITY, CHECKPOINT }

    record Step(Kind kind, int k, int stripe) {
    }

    record Request(int number, boolean write, int block, int word, int urgency) {
    }

    record Done(int number, int kind, int word, int tick) {
    }

    /** A DEED; of again the DEEDS inside. */
    record Node(String name, int[] n, List<Node> inside) {
    }

    static final class Fault extends Exception {
        final int code;

        Fault(int place, int kind) {
            code = 8 * place + kind;
        }
    }

    static final class State {
        int n;
        int r;
        boolean grown;
        int border;
        int size = 2;
        int least = 2;
        int most = 20;
        int[][] words = new int[8][40];
        boolean[][] bad = new boolean[8][40];
        int[] laid = new int[8];
        int lost = NONE;
        int done;
        boolean mark;
        List<Integer> wasRead = new ArrayList<>();
        List<Integer> backup = new ArrayList<>();
        List<Request> requests = new ArrayList<>();
        int nextNumber;
        int ticks;
        int steps;

        State(int n, int r) {
            this.n = n;
            this.r = r;
        }

        State copy() {
            State c = new State(n, r);
            c.grown = grown;
            c.border = border;
            c.size = size;
            c.least = least;
            c.most = most;
            for (int d = 0; d < 8; d++) {
                c.words[d] = words[d].clone();
                c.bad[d] = bad[d].clone();
            }
            c.laid = laid.clone();
            c.lost = lost;
            c.done = done;
            c.mark = mark;
            c.wasRead = new ArrayList<>(wasRead);
            c.backup = new ArrayList<>(backup);
            c.requests = new ArrayList<>(requests);
            c.nextNumber = nextNumber;
            c.ticks = ticks;
            c.steps = steps;
            return c;
        }
    }

    State s = new State(4, 12);
    State[] images = new State[2];
    List<Done> log = new ArrayList<>();
    List<Integer> tape = new ArrayList<>();

    // ---- layouts

    static int parityDisk(int m, int stripe) {
        return m - 1 - stripe % m;
    }

    static int diskOf(int m, int block) {
        int stripe = block / (m - 1);
        return (parityDisk(m, stripe) + 1 + block % (m - 1)) % m;
    }

    int disks() {
        return s.grown ? s.n + 1 : s.n;
    }

    int blocks() {
        return s.r * (s.n - 1);
    }

    int newStripes() {
        return (int) Math.ceil((double) blocks() / s.n);
    }

    int layout(int block) {
        return s.grown && block < s.border * s.n ? s.n + 1 : s.n;
    }

    boolean readable(int disk, int row) {
        return disk != s.lost && !s.bad[disk][row];
    }

    /** null: it can't be read. */
    Integer wordBy(int m, int disk, int row) {
        if (readable(disk, row)) {
            return s.words[disk][row];
        }
        return rebuilt(m, disk, row);
    }

    Integer rebuilt(int m, int disk, int row) {
        int x = 0;
        for (int d = 0; d < m; d++) {
            if (d != disk) {
                if (!readable(d, row)) {
                    return null;
                }
                x ^= s.words[d][row];
            }
        }
        return x;
    }

    // ---- the batch

    int stripesAt(int border) {
        return Math.min(s.size, newStripes() - border);
    }

    boolean criticalAt(int border) {
        return border * s.n / (s.n - 1) <= border + stripesAt(border) - 1;
    }

    List<Step> plan(int border) {
        List<Step> list = new ArrayList<>();
        int stripes = stripesAt(border);
        int first = border * s.n;
        for (int k = 0; k < stripes * s.n; k++) {
            if (first + k < blocks()) {
                list.add(new Step(Kind.READ, k, 0));
            }
        }
        if (criticalAt(border)) {
            for (int k = 0; k < stripes * s.n; k++) {
                list.add(new Step(Kind.BACKUP, k, 0));
            }
            list.add(new Step(Kind.MARK, 0, 0));
        }
        for (int t = 0; t < stripes; t++) {
            for (int k = 0; k < s.n; k++) {
                list.add(new Step(Kind.WORD, k, t));
            }
            list.add(new Step(Kind.PARITY, 0, t));
        }
        list.add(new Step(Kind.CHECKPOINT, 0, 0));
        return list;
    }

    long ofKind(Kind kind) {
        return plan(s.border).stream().filter(x -> x.kind == kind).count();
    }

    boolean moving(int block) {
        int first = s.border * s.n;
        return s.grown && s.done > 0 && block >= first && block < first + stripesAt(s.border) * s.n;
    }

    boolean held(int block) {
        return moving(block) && s.done >= ofKind(Kind.READ);
    }

    int batchWord(int k) {
        return k < s.wasRead.size() ? s.wasRead.get(k) : 0;
    }

    boolean stuck() {
        Step step = plan(s.border).get(s.done);
        if (step.kind != Kind.READ) {
            return false;
        }
        int block = s.border * s.n + step.k;
        return wordBy(s.n, diskOf(s.n, block), block / (s.n - 1)) == null;
    }

    void lay(int disk, int row, int word) {
        if (disk != s.lost) {
            s.words[disk][row] = word;
            s.bad[disk][row] = false;
            s.laid[disk]++;
        }
    }

    boolean step() {
        if (!s.grown || stuck()) {
            return false;
        }
        Step step = plan(s.border).get(s.done);
        int m = s.n + 1;
        int row = s.border + step.stripe;
        switch (step.kind) {
            case READ -> {
                if (step.k == 0) {
                    s.wasRead.clear();
                    s.backup.clear();
                }
                int block = s.border * s.n + step.k;
                s.wasRead.add(wordBy(s.n, diskOf(s.n, block), block / (s.n - 1)));
            }
            case BACKUP -> s.backup.add(batchWord(step.k));
            case MARK -> s.mark = true;
            case WORD -> lay(diskOf(m, row * s.n + step.k), row, batchWord(step.stripe * s.n + step.k));
            case PARITY -> {
                int x = 0;
                for (int k = 0; k < s.n; k++) {
                    x ^= batchWord(step.stripe * s.n + k);
                }
                lay(parityDisk(m, row), row, x);
            }
            default -> {
                s.border += stripesAt(s.border);
                s.mark = false;
                s.done = -1;
                if (s.border == newStripes()) {
                    finish();
                }
            }
        }
        s.done++;
        s.steps++;
        return true;
    }

    void finish() {
        for (int row = newStripes(); row < s.r; row++) {
            for (int d = 0; d <= s.n; d++) {
                s.words[d][row] = 0;
                s.bad[d][row] = false;
            }
        }
        s.n++;
        s.grown = false;
        s.border = 0;
    }

    // ---- the face

    int make(int disks, int rows) {
        if (disks < 3 || disks > 6 || rows < 4 || rows > 40) {
            return NONE;
        }
        s = new State(disks, rows);
        images = new State[2];
        log.clear();
        return blocks();
    }

    int set(int what, int v) {
        int was;
        if (what == 0 && v >= 1 && v <= 4 && !(s.grown && s.done > 0)) {
            was = s.size;
            s.size = v;
        } else if (what == 1 && v >= 0 && v <= 20) {
            was = s.least;
            s.least = v;
        } else if (what == 2 && v >= 1 && v <= 60) {
            was = s.most;
            s.most = v;
        } else {
            was = NONE;
        }
        return was;
    }

    int grow() {
        if (s.grown || s.n == 7 || s.lost != NONE) {
            return NONE;
        }
        s.grown = true;
        s.border = 0;
        s.done = 0;
        s.mark = false;
        s.words[s.n] = new int[40];
        s.bad[s.n] = new boolean[40];
        return newStripes();
    }

    int steps(int n) {
        if (!s.grown || n < 1 || n > 400) {
            return NONE;
        }
        int did = 0;
        while (did < n && step()) {
            did++;
        }
        return did;
    }

    boolean crash() {
        if (!s.grown) {
            return false;
        }
        s.requests.clear();
        if (s.mark) {
            s.wasRead = new ArrayList<>(s.backup);
            s.done = (int) (ofKind(Kind.READ) + ofKind(Kind.BACKUP) + 1);
        } else {
            s.done = 0;
        }
        return true;
    }

    Integer readOrNull(int block) {
        if (held(block)) {
            return batchWord(block - s.border * s.n);
        }
        int m = layout(block);
        return wordBy(m, diskOf(m, block), block / (m - 1));
    }

    int read(int block) {
        if (block < 0 || block >= blocks() || readOrNull(block) == null) {
            throw new NoSuchElementException();
        }
        return readOrNull(block);
    }

    boolean canWrite(int block) {
        int m = layout(block);
        int row = block / (m - 1);
        for (int k = 0; k < m - 1; k++) {
            int other = row * (m - 1) + k;
            if (other != block && wordBy(m, diskOf(m, other), row) == null) {
                return false;
            }
        }
        return true;
    }

    int write(int block, int word) {
        if (block < 0 || block >= blocks()) {
            return NONE;
        }
        if (moving(block)) {
            return -3;
        }
        if (!canWrite(block)) {
            return 0;
        }
        int m = layout(block);
        int row = block / (m - 1);
        int x = word;
        for (int k = 0; k < m - 1; k++) {
            int other = row * (m - 1) + k;
            if (other != block) {
                x ^= wordBy(m, diskOf(m, other), row);
            }
        }
        lay(diskOf(m, block), row, word);
        lay(parityDisk(m, row), row, x);
        return 1;
    }

    int fill(int block, int n, int word) {
        if (block < 0 || n < 1 || n > 200 || (long) block + n > blocks()) {
            return NONE;
        }
        int many = 0;
        for (int i = 0; i < n; i++) {
            many += write(block + i, word + i) == 1 ? 1 : 0;
        }
        return many;
    }

    boolean lose(int disk) {
        if (disk < 0 || disk >= disks() || s.lost != NONE) {
            return false;
        }
        s.lost = disk;
        return true;
    }

    int replace() {
        if (s.lost == NONE || s.grown && s.done > 0) {
            return NONE;
        }
        int d = s.lost;
        int many = 0;
        for (int row = 0; row < s.r; row++) {
            int m = row < s.border ? s.n + 1 : s.n;
            Integer word = d >= m ? Integer.valueOf(0) : rebuilt(m, d, row);
            s.words[d][row] = word == null ? 0 : word;
            s.bad[d][row] = word == null;
            many += word == null ? 1 : 0;
        }
        s.lost = NONE;
        return many;
    }

    boolean inside(int disk, int row) {
        return disk >= 0 && disk < disks() && row >= 0 && row < s.r;
    }

    boolean bad(int disk, int row) {
        if (!inside(disk, row) || disk == s.lost || s.bad[disk][row]) {
            return false;
        }
        s.bad[disk][row] = true;
        return true;
    }

    int ask(boolean write, int block, int word, int urgency) {
        if (block < 0 || block >= blocks() || urgency < 0 || urgency > 9 || s.requests.size() == 20) {
            return NONE;
        }
        s.requests.add(new Request(s.nextNumber, write, block, word, urgency));
        s.requests.sort(Comparator.comparingInt(Request::urgency).thenComparingInt(Request::number));
        return s.nextNumber++;
    }

    int tick(int ios) {
        return ios < 1 || ios > 60 ? NONE : tick(ios, log);
    }

    int tick(int ios, List<Done> into) {
        s.ticks++;
        int kept = s.grown ? Math.min(s.least, ios) : 0;
        int left = ios - kept;
        int many = 0;
        for (Request q : List.copyOf(s.requests)) {
            if (q.write && moving(q.block)) {
                continue;
            }
            boolean can = q.write ? canWrite(q.block) : readOrNull(q.block) != null;
            int cost = !can ? 1 : q.write ? 2 : Math.max(1, of(q.block, 4));
            if (cost > left) {
                break;
            }
            left -= cost;
            int word = !can ? 0 : q.write ? q.word : readOrNull(q.block);
            if (can && q.write) {
                write(q.block, q.word);
            }
            s.requests.remove(q);
            into.add(new Done(q.number, can ? q.write ? 1 : 0 : 2, word, s.ticks));
            if (into.size() > 30) {
                into.remove(0);
            }
            many++;
        }
        int budget = Math.min(left + kept, s.most);
        for (int i = 0; i < budget && step(); i++) {
            // the STEP is done by the condition
        }
        return many;
    }

    int served(int number, int what) {
        for (int i = log.size() - 1; i >= 0; i--) {
            Done d = log.get(i);
            if (d.number == number && what >= 0 && what <= 2) {
                return what == 0 ? d.kind : what == 1 ? d.word : d.tick;
            }
        }
        throw new NoSuchElementException();
    }

    int request(int i, int what) {
        if (i == NONE) {
            return s.requests.size();
        }
        if (i < 0 || i >= s.requests.size()) {
            return NONE;
        }
        Request q = s.requests.get(i);
        return switch (what) {
            case 0 -> q.number;
            case 1 -> q.block;
            case 2 -> q.urgency;
            case 3 -> q.write ? 1 : 0;
            default -> NONE;
        };
    }

    boolean poke(int disk, int row, int word) {
        if (!inside(disk, row) || disk == s.lost) {
            return false;
        }
        s.words[disk][row] = word;
        s.bad[disk][row] = false;
        return true;
    }

    List<Integer> scrubbed() {
        List<Integer> rows = new ArrayList<>();
        for (int row = 0; row < s.r; row++) {
            boolean inBatch = s.grown && s.done > 0 && row >= s.border && row < s.border + stripesAt(s.border);
            int m = row < s.border ? s.n + 1 : s.n;
            boolean all = true;
            for (int d = 0; d < m; d++) {
                all &= readable(d, row);
            }
            int p = parityDisk(m, row);
            if (all && !inBatch && rebuilt(m, p, row) != s.words[p][row]) {
                rows.add(row);
            }
        }
        return rows;
    }

    int scrub(int i) {
        List<Integer> rows = scrubbed();
        return i == NONE ? rows.size() : i >= 0 && i < rows.size() ? rows.get(i) : NONE;
    }

    int repair() {
        List<Integer> rows = scrubbed();
        for (int row : rows) {
            int m = row < s.border ? s.n + 1 : s.n;
            int p = parityDisk(m, row);
            lay(p, row, rebuilt(m, p, row));
        }
        return rows.size();
    }

    int forecast(int ios) {
        if (!s.grown || ios < 1 || ios > 60) {
            return NONE;
        }
        State kept = s;
        s = kept.copy();
        int ticks = 0;
        while (s.grown && ticks <= 400) {
            tick(ios, new ArrayList<>());
            ticks++;
        }
        s = kept;
        return ticks > 400 ? -3 : ticks;
    }

    boolean image(int i) {
        if (i != 0 && i != 1) {
            return false;
        }
        images[i] = s.copy();
        return true;
    }

    boolean back(int i) {
        if (i != 0 && i != 1 || images[i] == null) {
            return false;
        }
        s = images[i].copy();
        return true;
    }

    int feed(long a, long b, long c) {
        if (tape.size() + 24 > 264) {
            return NONE;
        }
        for (long x : new long[] {a, b, c}) {
            for (byte y : java.nio.ByteBuffer.allocate(8).putLong(x).array()) {
                tape.add(y & 255);
            }
        }
        return tape.size();
    }

    int end(int n) {
        if (n < 0 || n > tape.size()) {
            return NONE;
        }
        tape = new ArrayList<>(tape.subList(0, n));
        return n;
    }

    int script() {
        if (tape.size() > 240) {
            return NONE;
        }
        StringBuilder text = new StringBuilder();
        for (int x : tape) {
            text.append((char) x);
        }
        tape.clear();
        List<Node> nodes;
        try {
            Reader reader = new Reader(text.toString());
            nodes = reader.deeds(0);
        } catch (Fault f) {
            return -2 - f.code;
        }
        deedsDone = 0;
        run(nodes);
        return deedsDone;
    }

    int deedsDone;

    boolean run(List<Node> nodes) {
        for (Node node : nodes) {
            if (node.name.equals("again")) {
                for (int i = 0; i < node.n[0]; i++) {
                    if (!run(node.inside)) {
                        return false;
                    }
                }
            } else {
                if (deedsDone == 200 || !perform(node.name, node.n)) {
                    return false;
                }
                deedsDone++;
            }
        }
        return true;
    }

    boolean perform(String name, int[] n) {
        return switch (name) {
            case "grow" -> grow() != NONE;
            case "crash" -> crash();
            case "replace" -> replace() != NONE;
            case "repair" -> repair() != NONE;
            case "steps" -> steps(n[0]) != NONE;
            case "tick" -> tick(n[0]) != NONE;
            case "lose" -> lose(n[0]);
            case "write" -> write(n[0], n[1]) == 1;
            case "fill" -> fill(n[0], n[1], n[2]) != NONE;
            case "bad" -> bad(n[0], n[1]);
            case "image" -> image(n[0]);
            default -> back(n[0]);
        };
    }

    /** Reads a SCRIPT by recursive descent. */
    static final class Reader {
        final String text;
        int at;

        Reader(String text) {
            this.text = text;
        }

        void blanks() {
            while (at < text.length() && text.charAt(at) == ' ') {
                at++;
            }
        }

        String run(String signs) {
            int from = at;
            while (at < text.length() && signs.indexOf(text.charAt(at)) >= 0) {
                at++;
            }
            return text.substring(from, at);
        }

        void sign(char c) throws Fault {
            blanks();
            if (at >= text.length() || text.charAt(at) != c) {
                throw new Fault(at, 1);
            }
            at++;
        }

        int number(int highest) throws Fault {
            blanks();
            int from = at;
            String digits = run("0123456789");
            if (digits.isEmpty()) {
                throw new Fault(from, 1);
            }
            if (digits.length() > 4 || Integer.parseInt(digits) > highest) {
                throw new Fault(from, 2);
            }
            return Integer.parseInt(digits);
        }

        List<Node> deeds(int open) throws Fault {
            List<Node> nodes = new ArrayList<>();
            blanks();
            while (open == 0 ? at < text.length() : at >= text.length() || text.charAt(at) != ']') {
                int from = at;
                String name = run("abcdefghijklmnopqrstuvwxyz");
                int numbers = switch (name) {
                    case "grow", "crash", "replace", "repair" -> 0;
                    case "steps", "tick", "lose", "image", "back", "again" -> 1;
                    case "write", "bad" -> 2;
                    case "fill" -> 3;
                    default -> throw new Fault(from, 1);
                };
                boolean again = name.equals("again");
                if (again && open == 3) {
                    throw new Fault(from, 3);
                }
                int[] n = new int[numbers];
                for (int k = 0; k < numbers; k++) {
                    n[k] = number(again ? 20 : 9999);
                }
                List<Node> inside = null;
                if (again) {
                    sign('[');
                    inside = deeds(open + 1);
                    sign(']');
                }
                sign(';');
                nodes.add(new Node(name, n, inside));
                blanks();
            }
            return nodes;
        }
    }

    int laid(int disk) {
        return disk < 0 || disk >= disks() ? NONE : s.laid[disk];
    }

    int of(int block, int what) {
        if (block < 0 || block >= blocks()) {
            return NONE;
        }
        int m = layout(block);
        int disk = diskOf(m, block);
        int row = block / (m - 1);
        return switch (what) {
            case 0 -> m > s.n ? 1 : 0;
            case 1 -> disk;
            case 2 -> row;
            case 3 -> moving(block) ? 1 : 0;
            case 4 -> held(block) ? 0 : readable(disk, row) ? 1 : rebuilt(m, disk, row) != null ? m - 1 : 0;
            default -> NONE;
        };
    }

    int word(int disk, int row) {
        if (!inside(disk, row)) {
            throw new NoSuchElementException();
        }
        return s.words[disk][row];
    }

    int badAt(int i) {
        List<Integer> all = new ArrayList<>();
        for (int row = 0; row < s.r; row++) {
            for (int d = 0; d < disks(); d++) {
                if (s.bad[d][row]) {
                    all.add(100 * row + d);
                }
            }
        }
        return i == NONE ? all.size() : i >= 0 && i < all.size() ? all.get(i) : NONE;
    }

    List<Integer> allRead() {
        List<Integer> list = new ArrayList<>();
        for (int b = 0; b < blocks(); b++) {
            list.add(readOrNull(b));
        }
        return list;
    }

    int differences(List<Integer> before, List<Integer> then) {
        int many = 0;
        for (int b = 0; b < before.size(); b++) {
            if (before.get(b) != null && !before.get(b).equals(then.get(b))) {
                many++;
            }
        }
        return many;
    }

    int spoilt() {
        if (!s.grown) {
            return NONE;
        }
        List<Integer> before = allRead();
        State kept = s;
        s = kept.copy();
        crash();
        List<Integer> then = allRead();
        s = kept;
        return differences(before, then);
    }

    int exposed(int disk) {
        if (disk < 0 || disk >= disks()) {
            return NONE;
        }
        if (s.lost != NONE) {
            return 0;
        }
        List<Integer> before = allRead();
        s.lost = disk;
        List<Integer> then = allRead();
        s.lost = NONE;
        return differences(before, then);
    }

    int batch(int what) {
        if (!s.grown) {
            return NONE;
        }
        int steps = -s.done;
        int critical = 0;
        int most = 0;
        for (int b = s.border; b < newStripes(); b += stripesAt(b)) {
            steps += plan(b).size();
            critical += criticalAt(b) ? 1 : 0;
            most = Math.max(most, (int) plan(b).stream().filter(x -> x.kind == Kind.BACKUP).count());
        }
        return switch (what) {
            case 0 -> plan(s.border).size();
            case 1 -> s.done;
            case 2 -> criticalAt(s.border) ? 1 : 0;
            case 3 -> steps;
            case 4 -> critical;
            case 5 -> most;
            case 6 -> stuck() ? 1 : 0;
            case 7 -> s.mark ? 1 : 0;
            default -> NONE;
        };
    }

    int count(int what) {
        return switch (what) {
            case 0 -> disks();
            case 1 -> s.r;
            case 2 -> blocks();
            case 3 -> s.grown ? 1 : 0;
            case 4 -> s.grown ? s.border : 0;
            case 5 -> s.nextNumber;
            case 6 -> s.grown ? newStripes() : NONE;
            case 7 -> s.lost;
            case 8 -> badAt(NONE);
            case 9 -> s.ticks;
            case 10 -> s.steps;
            case 11 -> s.size;
            case 12 -> s.least;
            case 13 -> s.most;
            case 14 -> (int) allRead().stream().filter(x -> x == null).count();
            case 15 -> s.requests.size();
            case 16 -> tape.size();
            default -> NONE;
        };
    }
}
