/** Promises 10 to 16: count, batch, share, once, resume, next, at. */
public final class BatchesTest {
    private static final int BAD = BatchOrder.BAD;
    private static final int NONE = BatchOrder.NONE;
    private static final int LOWEST = Integer.MIN_VALUE;
    private static final int HIGHEST = Integer.MAX_VALUE;
    private static final int[] TEN = {5, 6, 1, 4, 8, 3, 2, 9, 0, 7};
    private static final Checks checks = new Checks();

    public static void main(String[] args) {
        count();
        batch();
        share();
        once();
        resume();
        next();
        at();
        fiveHundredAndTwelveCalls();
        checks.end();
    }

    private static void count() {
        countRoundsUpOrDrops();
        countThrowsAtSizeZero();
    }

    private static void countRoundsUpOrDrops() {
        checks.sentence("Promise 10", "How many BATCHES there are in an ORDER.");
        int[][] manySizeUpDrops = {{0, 4, 0, 0}, {0, 1, 0, 0}, {1, 1, 1, 1}, {1, 4, 1, 0}, {3, 4, 1, 0}, {4, 4, 1, 1},
            {5, 4, 2, 1}, {8, 4, 2, 2}, {60, 1, 60, 60}, {60, 20, 3, 3}, {59, 20, 3, 2}, {41, 20, 3, 2},
            {19, 20, 1, 0}};
        for (int[] c : manySizeUpDrops) {
            BatchOrder x = Sample.rows(c[0]);
            x.set(0, c[1]);
            checks.due("of " + c[0] + " by " + c[1], x.count(), c[2]);
            x.set(3, 1);
            checks.due("of " + c[0] + " by " + c[1] + " with DROPS", x.count(), c[3]);
        }
        checks.due("by the first SIZE", Sample.rows(9).count(), 3);
        checks.due("all WEIGHTS 0", Sample.ofWeights(0, 0, 0, 0, 0).count(), 2);
    }

    private static void countThrowsAtSizeZero() {
        checks.sentence("Promise 10", "ArithmeticException: SIZE is 0.");
        BatchOrder x = new BatchOrder();
        x.set(0, 0);
        checks.holds("without rows", Sample.countThrows(x));
        x.row(2, 0, 0);
        checks.holds("with a row", Sample.countThrows(x));
        x.set(3, 1);
        checks.holds("with DROPS", Sample.countThrows(x));
        x.set(0, 1);
        checks.holds("no more at SIZE 1", !Sample.countThrows(x));
        checks.due("then", x.count(), 1);
    }

    private static void batch() {
        batchCutsTheOrder();
        batchAnswersNone();
        batchRefuses();
        batchFails();
    }

    private static void batchCutsTheOrder() {
        checks.sentence("Promise 11", "ROW i of BATCH k in the ORDER of a ROUND by a WAY;");
        BatchOrder x = Sample.rows(10);
        for (int place = 0; place < 10; place++) {
            checks.due("place " + place, x.batch(0, 0, place / 4, place % 4), TEN[place]);
        }
        checks.due("another ROUND", x.batch(0, 1000, 2, 1), 4);
        checks.due("another WAY", x.batch(4, 6, 2, 0), 9);
    }

    private static void batchAnswersNone() {
        checks.sentence("Promise 11", "NONE: no such one.");
        for (int drops = 0; drops < 2; drops++) {
            BatchOrder x = Sample.rows(10);
            x.set(3, drops);
            checks.due("i behind a whole BATCH", x.batch(0, 0, 0, 4), NONE);
            checks.due("i that is in the BATCH behind", x.batch(0, 0, 1, 5), NONE);
            checks.due("the last one's last, DROPS " + drops, x.batch(0, 0, 2, 1), drops == 1 ? NONE : 7);
            checks.due("i behind the last one", x.batch(0, 0, 2, 2), NONE);
            checks.due("k behind the last one", x.batch(0, 0, 3, 0), NONE);
            checks.due("the highest k", x.batch(0, 0, HIGHEST, 0), NONE);
            checks.due("k that runs over to 0", x.batch(0, 0, 1 << 30, 0), NONE);
            checks.due("the highest i", x.batch(0, 0, 0, HIGHEST), NONE);
            checks.due("the highest of both", x.batch(0, 0, HIGHEST, HIGHEST), NONE);
        }
        for (int way = 0; way < 5; way++) {
            checks.due("without rows", new BatchOrder().batch(way, 0, 0, 0), NONE);
        }
    }

    private static void batchRefuses() {
        checks.sentence("Promise 11", "BAD: ROUND, WAY, k or i below 0;");
        int[][] wrong = {{-1, 0, 0, 0}, {5, 0, 0, 0}, {LOWEST, 0, 0, 0}, {HIGHEST, 0, 0, 0}, {0, -1, 0, 0},
            {0, 1001, 0, 0}, {0, LOWEST, 0, 0}, {0, HIGHEST, 0, 0}, {0, 0, -1, 0}, {0, 0, LOWEST, 0}, {0, 0, 0, -1},
            {0, 0, 0, LOWEST}, {0, 0, -1, 4}, {0, 0, 9, -1}};
        BatchOrder[] all = {Sample.rows(3), Sample.rows(0), Sample.rows(60)};
        for (BatchOrder x : all) {
            for (int[] w : wrong) {
                checks.due("batch" + written(w), x.batch(w[0], w[1], w[2], w[3]), BAD);
            }
        }
    }

    private static void batchFails() {
        checks.sentence("Promise 11", "FAILURE 6 (SIZE ahead of WEIGHTS).");
        BatchOrder x = Sample.ofWeights(0, 0, 0);
        checks.due("WEIGHTS", x.batch(2, 0, 0, 0), Sample.ZERO);
        checks.due("WEIGHTS, no such BATCH", x.batch(2, 0, 9, 9), Sample.ZERO);
        checks.due("BAD is ahead of WEIGHTS", x.batch(2, 0, -1, 0), BAD);
        checks.holds("WEIGHTS are nothing to another WAY", x.batch(3, 0, 0, 0) >= 0);
        x.set(0, 0);
        checks.due("SIZE and WEIGHTS", x.batch(2, 0, 0, 0), Sample.ZERO);
        checks.due("SIZE", x.batch(0, 0, 0, 0), Sample.ZERO);
        checks.due("SIZE, no such BATCH", x.batch(0, 0, 9, 9), Sample.ZERO);
        checks.due("BAD is ahead of SIZE", x.batch(0, 1001, 0, 0), BAD);
        BatchOrder empty = new BatchOrder();
        empty.set(0, 0);
        checks.due("SIZE without rows", empty.batch(2, 0, 0, 0), Sample.ZERO);
    }

    private static void share() {
        shareIsEveryMth();
        shareAnswersNone();
        shareRefuses();
        shareRefusesWorkers();
        shareFails();
    }

    private static void shareIsEveryMth() {
        checks.sentence("Promise 12", "ROW i of a WORKER's share of a BATCH:"
            + " of those in it, numbered from 0, that are w modulo m, the i-th;");
        for (int m = 1; m <= 8; m++) {
            BatchOrder x = Sample.rows(10);
            x.set(0, 7);
            for (int place = 0; place < 10; place++) {
                int inBatch = place % 7;
                int got = x.share(0, 0, place / 7, m, inBatch % m, inBatch / m);
                checks.due("place " + place + " of " + m + " WORKERS", got, TEN[place]);
            }
        }
    }

    private static void shareAnswersNone() {
        checks.sentence("Promise 12", "NONE.");
        BatchOrder x = Sample.rows(10);
        checks.due("behind a share", x.share(0, 0, 0, 3, 0, 2), NONE);
        checks.due("behind a lesser share", x.share(0, 0, 0, 3, 1, 1), NONE);
        checks.due("a WORKER without a share", x.share(0, 0, 0, 8, 4, 0), NONE);
        checks.due("the last WORKER", x.share(0, 0, 0, 8, 7, 0), NONE);
        checks.due("the last BATCH's last", x.share(0, 0, 2, 2, 1, 0), 7);
        checks.due("behind it", x.share(0, 0, 2, 2, 0, 1), NONE);
        checks.due("no such BATCH", x.share(0, 0, 3, 1, 0, 0), NONE);
        checks.due("the highest k", x.share(0, 0, HIGHEST, 1, 0, 0), NONE);
        checks.due("k that runs over to 0", x.share(0, 0, 1 << 30, 1, 0, 0), NONE);
        checks.due("the highest i", x.share(0, 0, 0, 8, 7, HIGHEST), NONE);
        checks.due("i that runs over to 0", x.share(0, 0, 0, 8, 0, 1 << 29), NONE);
        checks.due("i that runs over to 1", x.share(0, 0, 0, 4, 1, 1 << 30), NONE);
        x.set(3, 1);
        checks.due("DROPS", x.share(0, 0, 2, 1, 0, 0), NONE);
        checks.due("without rows", new BatchOrder().share(0, 0, 0, 1, 0, 0), NONE);
    }

    private static void shareRefuses() {
        checks.sentence("Promise 12", "BAD: as batch();");
        int[][] wrong = {{-1, 0, 0, 0}, {5, 0, 0, 0}, {LOWEST, 0, 0, 0}, {HIGHEST, 0, 0, 0}, {0, -1, 0, 0},
            {0, 1001, 0, 0}, {0, LOWEST, 0, 0}, {0, HIGHEST, 0, 0}, {0, 0, -1, 0}, {0, 0, LOWEST, 0}, {0, 0, 0, -1},
            {0, 0, 0, LOWEST}};
        for (BatchOrder x : new BatchOrder[] {Sample.rows(3), Sample.rows(0)}) {
            for (int[] w : wrong) {
                checks.due("share" + written(w), x.share(w[0], w[1], w[2], 1, 0, w[3]), BAD);
            }
        }
    }

    private static void shareRefusesWorkers() {
        checks.sentence("Promise 12", "m not 1 .. 8, w not 0 .. m - 1;");
        BatchOrder x = Sample.rows(20);
        x.set(0, 20);
        int[][] wrong = {{0, 0}, {-1, 0}, {9, 0}, {9, 8}, {LOWEST, 0}, {HIGHEST, 0}, {-1, -2}, {0, -1}, {1, 1}, {1, -1},
            {2, 2}, {2, -1}, {8, 8}, {8, -1}, {8, LOWEST}, {8, HIGHEST}, {5, 6}};
        for (int[] mw : wrong) {
            checks.due("m, w " + written(mw), x.share(0, 0, 0, mw[0], mw[1], 0), BAD);
        }
        int[][] right = {{1, 0}, {2, 0}, {2, 1}, {8, 0}, {8, 7}};
        for (int[] mw : right) {
            checks.holds("m, w " + written(mw), x.share(0, 0, 0, mw[0], mw[1], 0) >= 0);
        }
    }

    private static void shareFails() {
        checks.sentence("Promise 12", "FAILURE 6.");
        BatchOrder x = Sample.ofWeights(0, 0, 0);
        checks.due("WEIGHTS", x.share(2, 0, 0, 1, 0, 0), Sample.ZERO);
        checks.due("WEIGHTS, no such one", x.share(2, 0, 9, 8, 7, 9), Sample.ZERO);
        checks.due("BAD is ahead of WEIGHTS", x.share(2, 0, 0, 9, 0, 0), BAD);
        checks.holds("WEIGHTS are nothing to another WAY", x.share(1, 0, 0, 1, 0, 0) >= 0);
        x.set(0, 0);
        checks.due("SIZE", x.share(0, 0, 0, 1, 0, 0), Sample.ZERO);
        checks.due("SIZE and WEIGHTS", x.share(2, 0, 0, 1, 0, 0), Sample.ZERO);
        checks.due("BAD is ahead of SIZE", x.share(0, 0, 0, 2, 2, 0), BAD);
        BatchOrder empty = new BatchOrder();
        empty.set(0, 0);
        checks.due("SIZE without rows", empty.share(0, 0, 0, 1, 0, 0), Sample.ZERO);
    }

    private static void once() {
        onceTells();
        onceOfBalanced();
        onceRefuses();
        onceFails();
    }

    private static void onceTells() {
        checks.sentence("Promise 13", "Whether each ROW comes just once in the ORDER of a ROUND: 1, 0.");
        for (int many : new int[] {0, 1, 2, 60}) {
            for (int way : new int[] {0, 1, 3, 4}) {
                checks.due(many + " ROWS, WAY " + way, Sample.rows(many).once(way, 1000), 1);
            }
        }
        checks.due("WEIGHTED of a single ROW", Sample.rows(1).once(2, 0), 1);
        checks.due("WEIGHTED of none", Sample.rows(0).once(2, 0), 1);
        checks.due("WEIGHTED 3, 0, 0, 0", Sample.ofWeights(1, 0, 0, 1).once(2, 0), 0);
        checks.due("WEIGHTED 1, 0", Sample.ofWeights(1, 1).once(2, 0), 1);
        checks.due("WEIGHTED 1, 1", Sample.ofWeights(1, 1).once(2, 1), 0);
        checks.due("WEIGHTED of sixty", Sample.rows(60).once(2, 0), 0);
    }

    private static void onceOfBalanced() {
        checks.sentence("Promise 13", "Whether each ROW comes just once");
        checks.due("even LABELS", Sample.ofLabels(0, 1, 2, 0, 1, 2).once(3, 0), 1);
        checks.due("one more of the first LABEL", Sample.ofLabels(0, 1, 2, 0, 1, 2, 0).once(3, 0), 1);
        checks.due("one more of the last LABEL", Sample.ofLabels(0, 1, 2, 0, 1, 2, 2).once(3, 0), 0);
    }

    private static void onceRefuses() {
        checks.sentence("Promise 13", "BAD;");
        int[][] wrong = {{-1, 0}, {5, 0}, {LOWEST, 0}, {HIGHEST, 0}, {0, -1}, {0, 1001}, {0, LOWEST}, {0, HIGHEST}};
        for (BatchOrder x : new BatchOrder[] {Sample.rows(2), Sample.rows(0)}) {
            for (int[] w : wrong) {
                checks.due("once" + written(w), x.once(w[0], w[1]), BAD);
            }
        }
        checks.due("BAD is ahead of WEIGHTS", Sample.ofWeights(0).once(2, 1001), BAD);
    }

    private static void onceFails() {
        checks.sentence("Promise 13", "FAILURE 6 (of WEIGHTS alone).");
        BatchOrder x = Sample.ofWeights(0, 0);
        checks.due("WEIGHTS", x.once(2, 0), Sample.ZERO);
        x.set(0, 0);
        checks.due("SIZE 0 is none", x.once(0, 0), 1);
        checks.due("WEIGHTS and SIZE 0", x.once(2, 0), Sample.ZERO);
        x.mark(1, 0, 1);
        checks.due("SIZE 0 and a WEIGHT", x.once(2, 0), 0);
    }

    private static void resume() {
        resumeBeginsAnew();
        resumePlaceWithin();
        resumeKeepsAsTold();
        resumeRefuses();
    }

    private static void resumeBeginsAnew() {
        checks.sentence("Promise 14", "A way of going through begins: WAY, ROUND, the place in its ORDER");
        BatchOrder x = Sample.rows(10);
        checks.due("resume", x.resume(4, 6, 3), 1);
        checks.due("at hand", Sample.atHand(x), 4, 6, 3);
        checks.due("next()", x.next(), 6);
        checks.due("resume again", x.resume(0, 0, 9), 1);
        checks.due("next()", x.next(), 7);
        checks.due("without WEIGHTS", Sample.ofWeights(0).resume(2, 0, 0), 1);
        checks.due("to the lowest", x.resume(0, 0, 0), 1);
        checks.due("to the highest", x.resume(4, 1000, 10), 1);
    }

    private static void resumePlaceWithin() {
        checks.sentence("Promise 14", "(0 .. as many as there are ROWS;");
        for (int many : new int[] {0, 1, 60}) {
            BatchOrder x = Sample.rows(many);
            checks.due("place 0", x.resume(0, 0, 0), 1);
            checks.due("place -1", x.resume(0, 0, -1), BAD);
            checks.due("the last place", x.resume(0, 0, many), 1);
            checks.due("behind it", x.resume(0, 0, many + 1), BAD);
            checks.due("the highest place", x.resume(0, 0, HIGHEST), BAD);
            checks.due("the lowest place", x.resume(0, 0, LOWEST), BAD);
        }
    }

    private static void resumeKeepsAsTold() {
        checks.sentence("Promise 14", "kept as told): 1.");
        BatchOrder x = Sample.rows(5);
        x.resume(1, 1000, 5);
        checks.due("behind the last one", Sample.atHand(x), 1, 1000, 5);
        x.row(2, 0, 0);
        checks.due("with a ROW more", Sample.atHand(x), 1, 1000, 5);
        BatchOrder empty = new BatchOrder();
        empty.resume(3, 7, 0);
        checks.due("without rows", Sample.atHand(empty), 3, 7, 0);
    }

    private static void resumeRefuses() {
        checks.sentence("Promise 14", "BAD.");
        BatchOrder x = Sample.rows(10);
        x.resume(1, 2, 3);
        int[][] wrong = {{-1, 0, 0}, {5, 0, 0}, {LOWEST, 0, 0}, {HIGHEST, 0, 0}, {0, -1, 0}, {0, 1001, 0},
            {0, LOWEST, 0}, {0, HIGHEST, 0}, {0, 0, -1}, {0, 0, 11}, {0, 0, LOWEST}, {0, 0, HIGHEST}};
        for (int[] w : wrong) {
            checks.due("resume" + written(w), x.resume(w[0], w[1], w[2]), BAD);
            checks.due("at hand as it was", Sample.atHand(x), 1, 2, 3);
        }
    }

    private static void next() {
        nextIsOneMore();
        nextGoesOnBehindTheLast();
        nextGoesOnBehindTheLastRound();
        nextAtFirst();
        nextWithoutRows();
        nextFails();
        nextSeesWhatIsNew();
    }

    private static void nextIsOneMore() {
        checks.sentence("Promise 15", "The ROW at the place at hand, which is one more then;");
        BatchOrder x = Sample.rows(10);
        for (int place = 0; place < 10; place++) {
            checks.due("next()", x.next(), TEN[place]);
            checks.due("at hand", Sample.atHand(x), 0, 0, place + 1);
        }
    }

    private static void nextGoesOnBehindTheLast() {
        checks.sentence("Promise 15", "behind the last one (or beyond) it goes on at place 0 of the ROUND behind");
        BatchOrder x = Sample.rows(10);
        x.resume(0, 0, 10);
        int[] second = Sample.order(x, 0, 1);
        checks.due("all of ROUND 1", Sample.next(x, 10), second);
        checks.due("behind the last one of ROUND 1", Sample.atHand(x), 0, 1, 10);
        checks.due("the first of ROUND 2", x.next(), x.batch(0, 2, 0, 0));
        checks.due("in ROUND 2", Sample.atHand(x), 0, 2, 1);
        BatchOrder single = Sample.rows(1);
        for (int round = 0; round < 5; round++) {
            checks.due("the only ROW", single.next(), 0);
            checks.due("in ROUND " + round, Sample.atHand(single), 0, round, 1);
        }
    }

    private static void nextGoesOnBehindTheLastRound() {
        checks.sentence("Promise 15", "(of 1000: 0);");
        BatchOrder x = Sample.rows(10);
        x.resume(0, 999, 10);
        checks.due("the first of ROUND 1000", x.next(), 9);
        checks.due("in ROUND 1000", Sample.atHand(x), 0, 1000, 1);
        x.resume(0, 1000, 9);
        checks.due("the last of ROUND 1000", x.next(), 4);
        checks.due("still ROUND 1000", Sample.atHand(x), 0, 1000, 10);
        checks.due("the first of ROUND 0", x.next(), 5);
        checks.due("in ROUND 0", Sample.atHand(x), 0, 0, 1);
        x.resume(4, 1000, 10);
        checks.due("by another WAY", x.next(), x.batch(4, 0, 0, 0));
        checks.due("the WAY stays", Sample.atHand(x), 4, 0, 1);
    }

    private static void nextAtFirst() {
        checks.sentence("Promise 15", "at first WAY 0, ROUND 0, place 0.");
        BatchOrder x = new BatchOrder();
        checks.due("at hand without rows", Sample.atHand(x), 0, 0, 0);
        BatchOrder y = Sample.rows(10);
        checks.due("at hand", Sample.atHand(y), 0, 0, 0);
        checks.due("the first ones", Sample.next(y, 3), 5, 6, 1);
    }

    private static void nextWithoutRows() {
        checks.sentence("Promise 15", "NONE: there are no ROWS.");
        for (int way = 0; way < 5; way++) {
            BatchOrder x = new BatchOrder();
            x.resume(way, 1000, 0);
            checks.due("next()", x.next(), NONE);
            checks.due("next() again", x.next(), NONE);
            checks.due("at hand as it was", Sample.atHand(x), way, 1000, 0);
            x.row(2, 0, 1);
            checks.due("the first row", x.next(), 0);
            checks.due("one more", Sample.atHand(x), way, 1000, 1);
        }
    }

    private static void nextFails() {
        checks.sentence("Promise 15", "FAILURE 6 (of WEIGHTS).");
        BatchOrder x = Sample.ofWeights(0, 0);
        x.set(0, 0);
        checks.holds("SIZE 0 is none", x.next() >= 0);
        x.resume(2, 4, 1);
        checks.due("in the ORDER", x.next(), Sample.ZERO);
        checks.due("at hand as it was", Sample.atHand(x), 2, 4, 1);
        x.resume(2, 1000, 2);
        checks.due("behind the last one", x.next(), Sample.ZERO);
        checks.due("at hand as it was", Sample.atHand(x), 2, 1000, 2);
        x.mark(1, 0, 1);
        checks.due("with a WEIGHT", x.next(), 1);
        checks.due("then ROUND 0", Sample.atHand(x), 2, 0, 1);
    }

    private static void nextSeesWhatIsNew() {
        checks.sentence("Promise 15", "The ROW at the place at hand");
        BatchOrder x = Sample.rows(1);
        x.set(2, 1);
        x.resume(4, 0, 1);
        x.row(2, 0, 0);
        checks.due("a ROW that came later", x.next(), 1);
        checks.due("in the same ROUND", Sample.atHand(x), 4, 0, 2);
        BatchOrder y = Sample.rows(6);
        y.resume(0, 3, 0);
        y.seed(-1);
        checks.due("another SEED", Sample.next(y, 2), 0, 3);
        y.seed(1);
        checks.due("another SEED within the ROUND", Sample.next(y, 4), 1, 0, 4, 3);
    }

    private static void at() {
        checks.sentence("Promise 16", "What is at hand: 0 WAY, 1 ROUND, 2 place.");
        BatchOrder x = Sample.rows(10);
        x.resume(3, 17, 9);
        checks.due("at(0)", x.at(0), 3);
        checks.due("at(1)", x.at(1), 17);
        checks.due("at(2)", x.at(2), 9);
        checks.sentence("Promise 16", "BAD.");
        for (int what : new int[] {-1, 3, LOWEST, HIGHEST}) {
            checks.due("at(" + what + ")", x.at(what), BAD);
        }
    }

    private static void fiveHundredAndTwelveCalls() {
        checks.sentence("What it is", "An object is used for at most 512 calls after it has been made");
        BatchOrder x = Sample.rows(60);
        for (int round = 0; round < 8; round++) {
            int[] order = Sample.order(Sample.rows(60), 0, round);
            int many = Math.min(60, 451 - 60 * round);
            checks.due("ROUND " + round, Sample.next(x, many), java.util.Arrays.copyOf(order, many));
        }
        checks.due("the last call", x.at(2), 31);
    }

    private static String written(int[] arguments) {
        return java.util.Arrays.toString(arguments);
    }
}
