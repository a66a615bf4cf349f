import java.util.Random;

/** Long runs of calls, the same each time, whose answers must be those of Model. */
public final class ModelTest {
    private static final int RUNS = 3000;
    // The document promises answers for so many calls on an object, and a step below makes fewer than STEP of them.
    private static final int CALLS = 512;
    private static final int STEP = 50;
    private static final int[] EDGES = {Integer.MIN_VALUE, -2, -1, 41, 61, 101, 257, 1001, Integer.MAX_VALUE};
    private static final Checks checks = new Checks();

    private final Random random;
    private final BatchOrder made = new BatchOrder();
    private final Model model = new Model();
    private int calls = 0;
    // How likely an argument is a wild one, in thousandths: some runs have none.
    private final int wild;
    // How many ROWS a run begins with, so that full tables and empty ones come too.
    private final int rowsAtFirst;

    private ModelTest(int run) {
        random = new Random(run);
        wild = run % 4 * 20;
        rowsAtFirst = random.nextInt(64);
    }

    public static void main(String[] args) {
        for (int run = 0; run < RUNS && checks.allRight(); run++) {
            ModelTest test = new ModelTest(run);
            for (int step = 0; test.calls <= CALLS - STEP && checks.allRight(); step++) {
                test.call("run " + run + ", call " + test.calls + ": ", step < test.rowsAtFirst);
            }
            checks.holds("run " + run + " keeps to its calls", test.calls <= CALLS);
        }
        checks.end();
    }

    private BatchOrder x() {
        calls++;
        return made;
    }

    private int arg(int least, int most) {
        if (random.nextInt(1000) < wild) {
            return random.nextBoolean() ? EDGES[random.nextInt(EDGES.length)] : random.nextInt();
        }
        int near = random.nextInt(20);
        if (near < 2) {
            return near == 0 ? least : most;
        }
        return least + random.nextInt(most - least + 1);
    }

    private int weight() {
        return random.nextInt(3) == 0 ? arg(0, 1000) : arg(0, 1);
    }

    private void call(String where, boolean makesRow) {
        switch (makesRow ? random.nextInt(3) : random.nextInt(24)) {
            case 0: row(where); break;
            case 1: picture(where); break;
            case 2: case 3: case 4: words(where); break;
            case 5: paint(where); break;
            case 6: mark(where); break;
            case 7: of(where); break;
            case 8: settings(where); break;
            case 9: count(where); break;
            case 10: case 11: case 12: batch(where); break;
            case 13: share(where); break;
            case 14: once(where); break;
            case 15: resume(where); break;
            case 16: case 17: next(where); break;
            case 18: case 19: case 20: act(where); break;
            case 21: case 22: out(where); break;
            default: like(where); break;
        }
    }

    private void row(String where) {
        int kind = arg(0, 2);
        int label = arg(0, 7);
        int weight = weight();
        checks.due(where + "row", x().row(kind, label, weight), model.row(kind, label, weight));
    }

    private void picture(String where) {
        int most = random.nextInt(4) == 0 ? 40 : 5;
        int high = arg(1, most);
        int wide = arg(1, most);
        int label = arg(0, 7);
        int weight = weight();
        checks.due(where + "picture", x().picture(high, wide, label, weight), model.picture(high, wide, label, weight));
    }

    private void words(String where) {
        int row = arg(0, 59);
        for (int k = random.nextInt(9); k >= 0; k--) {
            int v = random.nextInt();
            checks.due(where + "word", x().word(row, v), model.word(row, v));
        }
    }

    private void paint(String where) {
        int row = arg(0, 59);
        int k = arg(0, random.nextBoolean() ? 20 : 1600);
        long v = random.nextLong();
        checks.due(where + "paint", x().paint(row, k, v), model.paint(row, k, v));
    }

    private void mark(String where) {
        int row = arg(0, 59);
        int label = arg(0, 7);
        int weight = weight();
        checks.due(where + "mark", x().mark(row, label, weight), model.mark(row, label, weight));
    }

    private void of(String where) {
        int row = arg(0, 59);
        int what = arg(0, 5);
        checks.due(where + "of", x().of(row, what), model.of(row, what));
    }

    private void settings(String where) {
        if (random.nextInt(4) == 0) {
            long s = random.nextLong();
            checks.due(where + "seed", x().seed(s), model.seed(s));
        }
        int what = arg(0, 3);
        int n = arg(0, what == 3 ? 1 : what == 0 ? 20 : 60);
        checks.due(where + "set", x().set(what, n), model.set(what, n));
    }

    private void count(String where) {
        long got;
        long want;
        try {
            got = x().count();
        } catch (ArithmeticException e) {
            got = Long.MIN_VALUE;
        }
        try {
            want = model.count();
        } catch (ArithmeticException e) {
            want = Long.MIN_VALUE;
        }
        checks.due(where + "count", got, want);
    }

    private void batch(String where) {
        int way = arg(0, 4);
        int round = arg(0, 1000);
        int k = arg(0, 8);
        int i = arg(0, 5);
        checks.due(where + "batch", x().batch(way, round, k, i), model.batch(way, round, k, i));
    }

    private void share(String where) {
        int way = arg(0, 4);
        int round = arg(0, 1000);
        int k = arg(0, 8);
        int m = arg(1, 8);
        int w = arg(0, Math.min(8, Math.max(0, m)));
        int i = arg(0, 3);
        checks.due(where + "share", x().share(way, round, k, m, w, i), model.share(way, round, k, m, w, i));
    }

    private void once(String where) {
        int way = arg(0, 4);
        int round = arg(0, 1000);
        checks.due(where + "once", x().once(way, round), model.once(way, round));
    }

    private void resume(String where) {
        int way = arg(0, 4);
        int round = arg(0, 1000);
        int place = arg(0, 60);
        checks.due(where + "resume", x().resume(way, round, place), model.resume(way, round, place));
        atHand(where);
    }

    private void next(String where) {
        for (int k = random.nextInt(6); k >= 0; k--) {
            checks.due(where + "next", x().next(), model.next());
        }
        atHand(where);
    }

    private void atHand(String where) {
        int what = arg(0, 2);
        checks.due(where + "at", x().at(what), model.at(what));
        checks.due(where + "at(1)", x().at(1), model.at(1));
        checks.due(where + "at(2)", x().at(2), model.at(2));
    }

    private void act(String where) {
        int act = arg(0, 4);
        int row = arg(0, 59);
        int round = arg(0, 1000);
        int n = arg(random.nextInt(10) == 0 ? -1 : 0, random.nextBoolean() ? 5 : 50);
        checks.due(where + "act", x().act(act, row, round, n), model.act(act, row, round, n));
        someOfOut(where);
        checks.due(where + "like", x().like(row), model.like(row));
    }

    private void someOfOut(String where) {
        int length = Math.max(0, model.out(-1));
        int step = length < 30 ? 1 : (length + 29) / 30 + random.nextInt(7);
        for (int i = -4; i <= length; i += i < 0 ? 1 : step) {
            checks.due(where + "out(" + i + ")", x().out(i), model.out(i));
        }
        checks.due(where + "out(" + length + ")", x().out(length), model.out(length));
    }

    private void out(String where) {
        int i = arg(-4, 1600);
        checks.due(where + "out(" + i + ")", x().out(i), model.out(i));
    }

    private void like(String where) {
        int row = arg(0, 59);
        checks.due(where + "like", x().like(row), model.like(row));
    }
}
