import java.util.ArrayList;
import java.util.List;
import java.util.NoSuchElementException;
import java.util.Random;
import java.util.function.ToIntFunction;

/** Runs of calls by chance (from fixed seeds): the class has to answer each as the model does. */
public final class RandomRunsTest {
    private static final int RUNS = 1500;
    private static final int CALLS = 512;
    private static final long MISSING = Long.MIN_VALUE;

    private final Random random;
    private final GrowHouse house = new GrowHouse();
    private final Model model = new Model();
    private final List<String> told = new ArrayList<>();
    private boolean same = true;
    /** Some runs have hardly a BAD word, so that they get far. */
    private final int harm;

    private RandomRunsTest(long seed) {
        random = new Random(seed);
        harm = random.nextInt(4);
    }

    public static void main(String[] args) {
        int wrong = 0;
        int runs = args.length > 0 ? Integer.parseInt(args[0]) : RUNS;
        long from = args.length > 1 ? Long.parseLong(args[1]) : 0;
        for (long seed = from; seed < from + runs && wrong < 5; seed++) {
            RandomRunsTest run = new RandomRunsTest(seed);
            run.go();
            if (!run.same) {
                wrong++;
                System.out.println("seed " + seed + ":");
                run.told.stream().skip(Math.max(0, run.told.size() - 60)).forEach(System.out::println);
            }
        }
        System.out.println("RandomRunsTest: " + runs + " runs, " + wrong + " not as due");
        if (wrong != 0) {
            System.exit(1);
        }
    }

    private void go() {
        if (random.nextInt(5) > 0) {
            make();
        }
        for (int call = 0; call < CALLS && same; call++) {
            one();
        }
        if (same) {
            all();
        }
    }

    private static <T> long answer(T x, ToIntFunction<T> call) {
        try {
            return call.applyAsInt(x);
        } catch (NoSuchElementException due) {
            return MISSING;
        }
    }

    private void both(String call, ToIntFunction<GrowHouse> of, ToIntFunction<Model> due) {
        long got = answer(house, of);
        long want = answer(model, due);
        told.add(call + " = " + (got == MISSING ? "throws" : got)
            + (got == want ? "" : " BUT DUE IS " + (want == MISSING ? "throws" : want)));
        same &= got == want;
    }

    private static int bit(boolean b) {
        return b ? 1 : 0;
    }

    private int upTo(int highest) {
        return random.nextInt(highest + 1);
    }

    /** Mostly within the limits, now and then just outside or far off. */
    private int near(int low, int high) {
        switch (random.nextInt(24)) {
            case 0: return low - 1;
            case 1: return high + 1;
            case 2: return random.nextInt(8) == 0 ? random.nextInt() : low;
            case 3: return high;
            default: return low + random.nextInt(Math.max(1, high - low + 1));
        }
    }

    private int block() {
        return near(0, model.blocks() - 1);
    }

    private int disk() {
        return near(0, model.disks() - 1);
    }

    private int row() {
        return near(0, model.s.r - 1);
    }

    private int number() {
        return random.nextBoolean() ? random.nextInt() : upTo(50);
    }

    private void make() {
        int d = near(3, 6);
        int r = random.nextBoolean() ? near(4, 8) : near(4, 40);
        both("make(" + d + ", " + r + ")", x -> x.make(d, r), x -> x.make(d, r));
        if (random.nextInt(4) > 0) {
            int n = Math.min(200, model.blocks());
            int w = number();
            both("fill(0, " + n + ", " + w + ")", x -> x.fill(0, n, w), x -> x.fill(0, n, w));
        }
    }

    private void one() {
        int pick = random.nextInt(100);
        if (pick < 45) {
            change(random.nextInt(100));
        } else if (pick < 97) {
            look(random.nextInt(100));
        } else {
            tape();
        }
    }

    private void change(int pick) {
        if (pick < 1) {
            make();
        } else if (pick < 5) {
            int what = near(0, 2);
            int v = what == 0 ? near(1, 4) : what == 1 ? near(0, 20) : near(1, 60);
            both("set(" + what + ", " + v + ")", x -> x.set(what, v), x -> x.set(what, v));
        } else if (pick < 12) {
            both("grow()", GrowHouse::grow, Model::grow);
        } else if (pick < 30) {
            int n = random.nextInt(3) > 0 ? near(1, 12) : near(1, 400);
            both("steps(" + n + ")", x -> x.steps(n), x -> x.steps(n));
        } else if (pick < 35) {
            both("crash()", x -> bit(x.crash()), x -> bit(x.crash()));
        } else if (pick < 45) {
            int b = block();
            int w = number();
            both("write(" + b + ", " + w + ")", x -> x.write(b, w), x -> x.write(b, w));
        } else if (pick < 49) {
            int b = block();
            int n = near(1, Math.max(1, Math.min(200, model.blocks() - b)));
            int w = number();
            both("fill(" + b + ", " + n + ", " + w + ")", x -> x.fill(b, n, w), x -> x.fill(b, n, w));
        } else if (pick < 53) {
            int d = disk();
            both("lose(" + d + ")", x -> bit(x.lose(d)), x -> bit(x.lose(d)));
        } else if (pick < 58) {
            both("replace()", GrowHouse::replace, Model::replace);
        } else if (pick < 64) {
            harm();
        } else if (pick < 76) {
            boolean wr = random.nextBoolean();
            int b = block();
            int w = number();
            int u = near(0, 9);
            both("ask(" + wr + ", " + b + ", " + w + ", " + u + ")", x -> x.ask(wr, b, w, u), x -> x.ask(wr, b, w, u));
        } else if (pick < 88) {
            int ios = random.nextInt(3) > 0 ? near(1, 9) : near(1, 60);
            both("tick(" + ios + ")", x -> x.tick(ios), x -> x.tick(ios));
        } else if (pick < 91) {
            both("repair()", GrowHouse::repair, Model::repair);
        } else if (pick < 96) {
            int i = near(0, 1);
            both("image(" + i + ")", x -> bit(x.image(i)), x -> bit(x.image(i)));
        } else {
            int i = near(0, 1);
            both("back(" + i + ")", x -> bit(x.back(i)), x -> bit(x.back(i)));
        }
    }

    private void harm() {
        int d = disk();
        int r = row();
        int w = number();
        if (random.nextInt(4) > harm) {
            return;
        }
        if (random.nextInt(3) == 0) {
            both("poke(" + d + ", " + r + ", " + w + ")", x -> bit(x.poke(d, r, w)), x -> bit(x.poke(d, r, w)));
        } else {
            both("bad(" + d + ", " + r + ")", x -> bit(x.bad(d, r)), x -> bit(x.bad(d, r)));
        }
    }

    private void look(int pick) {
        int b = block();
        int d = disk();
        int r = row();
        if (pick < 20) {
            both("read(" + b + ")", x -> x.read(b), x -> x.read(b));
        } else if (pick < 27) {
            int number = near(0, Math.max(0, model.s.nextNumber - 1));
            int what = near(0, 2);
            both("served(" + number + ", " + what + ")", x -> x.served(number, what), x -> x.served(number, what));
        } else if (pick < 34) {
            int i = near(0, model.s.requests.size());
            int what = near(0, 4);
            both("request(" + i + ", " + what + ")", x -> x.request(i, what), x -> x.request(i, what));
        } else if (pick < 39) {
            int i = near(-1, 3);
            both("scrub(" + i + ")", x -> x.scrub(i), x -> x.scrub(i));
        } else if (pick < 42) {
            int ios = near(1, random.nextBoolean() ? 10 : 60);
            both("forecast(" + ios + ")", x -> x.forecast(ios), x -> x.forecast(ios));
        } else if (pick < 46) {
            both("laid(" + d + ")", x -> x.laid(d), x -> x.laid(d));
        } else if (pick < 56) {
            int what = near(0, 4);
            both("of(" + b + ", " + what + ")", x -> x.of(b, what), x -> x.of(b, what));
        } else if (pick < 66) {
            both("word(" + d + ", " + r + ")", x -> x.word(d, r), x -> x.word(d, r));
        } else if (pick < 70) {
            int i = near(-1, 4);
            both("badAt(" + i + ")", x -> x.badAt(i), x -> x.badAt(i));
        } else if (pick < 75) {
            both("spoilt()", GrowHouse::spoilt, Model::spoilt);
        } else if (pick < 80) {
            both("exposed(" + d + ")", x -> x.exposed(d), x -> x.exposed(d));
        } else if (pick < 89) {
            int what = near(0, 7);
            both("batch(" + what + ")", x -> x.batch(what), x -> x.batch(what));
        } else {
            int what = near(0, 16);
            both("count(" + what + ")", x -> x.count(what), x -> x.count(what));
        }
    }

    private void tape() {
        String text = "";
        int tries = random.nextInt(12);
        for (int i = 0; i < tries; i++) {
            text += deed(0);
        }
        StringBuilder bent = new StringBuilder(text);
        while (random.nextInt(3) == 0 && bent.length() > 0) {
            int at = random.nextInt(bent.length());
            if (random.nextBoolean()) {
                bent.deleteCharAt(at);
            } else {
                bent.insert(at, "; []azx059\t\u00e9".charAt(random.nextInt(12)));
            }
        }
        feed(bent.length() > 264 ? bent.substring(0, 264) : bent.toString());
        if (random.nextInt(8) > 0) {
            both("script()", GrowHouse::script, Model::script);
        }
    }

    private void feed(String text) {
        int before = model.tape.size();
        for (int at = 0; at < text.length(); at += 24) {
            long a = Check.eight(text, at);
            long b = Check.eight(text, at + 8);
            long c = Check.eight(text, at + 16);
            both("feed(" + a + ", " + b + ", " + c + ")", x -> x.feed(a, b, c), x -> x.feed(a, b, c));
        }
        int n = random.nextInt(10) == 0 ? near(0, 264) : before + text.length();
        both("end(" + n + ")", x -> x.end(n), x -> x.end(n));
        told.add("  which is " + text);
    }

    private String blanks() {
        return random.nextInt(4) == 0 ? "  ".substring(random.nextInt(3)) : "";
    }

    private String deed(int open) {
        String end = blanks() + ";" + blanks();
        switch (random.nextInt(open < 4 ? 15 : 12)) {
            case 0: return "grow" + end;
            case 1: return "crash" + end;
            case 2: return "replace" + end;
            case 3: return "repair" + end;
            case 4: return "steps " + near(1, 40) + end;
            case 5: return "tick" + blanks() + near(1, 60) + end;
            case 6: return "lose " + disk() + end;
            case 7: return "write " + block() + " " + upTo(9999) + end;
            case 8: return "fill " + block() + " " + near(1, 20) + " " + upTo(10500) + end;
            case 9: return "bad " + disk() + " " + row() + end;
            case 10: return "image " + upTo(1) + end;
            case 11: return "back " + upTo(1) + end;
            default:
                StringBuilder text = new StringBuilder("again " + near(0, 20) + blanks() + "[" + blanks());
                int inside = random.nextInt(4);
                for (int i = 0; i < inside; i++) {
                    text.append(deed(open + 1));
                }
                return text + "]" + end;
        }
    }

    /** All that can be told, at the end of a run. */
    private void all() {
        for (int what = -1; what <= 17; what++) {
            int w = what;
            both("count(" + w + ")", x -> x.count(w), x -> x.count(w));
            both("batch(" + w + ")", x -> x.batch(w), x -> x.batch(w));
        }
        for (int b = -1; b <= model.blocks(); b++) {
            int block = b;
            both("read(" + b + ")", x -> x.read(block), x -> x.read(block));
            for (int what = 0; what <= 4; what++) {
                int w = what;
                both("of(" + b + ", " + w + ")", x -> x.of(block, w), x -> x.of(block, w));
            }
        }
        for (int d = -1; d <= model.disks(); d++) {
            int disk = d;
            both("laid(" + d + ")", x -> x.laid(disk), x -> x.laid(disk));
            both("exposed(" + d + ")", x -> x.exposed(disk), x -> x.exposed(disk));
            for (int r = -1; r <= model.s.r; r++) {
                int row = r;
                both("word(" + d + ", " + r + ")", x -> x.word(disk, row), x -> x.word(disk, row));
            }
        }
    }
}
