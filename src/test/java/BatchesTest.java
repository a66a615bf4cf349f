/** Promises 10 to 16: count, batch, share, once, resume, next, at, and the ORDERS behind them. */
public final class BatchesTest {
    private static final int ZERO = -16;
    private static final int[] LENGTHS = {3, 0, 2, 5, 1, 2, 0, 4, 2, 1};
    private static final int[] WEIGHTS = {0, 5, 1, 0, 1000, 3, 2, 7, 900, 1};
    private static final int[] LABELS = {2, 2, 7, 2, 0, 2, 2, 7, 2, 2};
    private static final Checks checks = new Checks();

    public static void main(String[] args) {
        countRoundsUpOrDrops();
        countThrowsAtSizeZero();
        plainOrder();
        lengthsOrder();
        weightedOrder();
        balancedOrder();
        bufferedOrder();
        batchCutsTheOrder();
        batchRefusesAndFails();
        shareIsEveryMth();
        shareRefusesAndFails();
        onceTellsWhetherEachComesOnce();
        onceRefusesAndFails();
        resumeBeginsAnew();
        resumeRefuses();
        nextGoesThrough();
        nextGoesOnBehindTheLast();
        nextFailsWithoutChange();
        nextSeesLaterRows();
        atTellsAndRefuses();
        checks.end();
    }

    private static BatchOrder ten() {
        BatchOrder x = new BatchOrder();
        for (int r = 0; r < 10; r++) {
            x.row(0, LABELS[r], WEIGHTS[r]);
            for (int k = 0; k < LENGTHS[r]; k++) {
                x.word(r, k);
            }
        }
        return x;
    }

    private static BatchOrder plainRows(int many) {
        BatchOrder x = new BatchOrder();
        for (int r = 0; r < many; r++) {
            x.row(2, 0, 1);
        }
        return x;
    }

    private static int[] wholeOrder(BatchOrder x, int way, int round) {
        int size = x.set(0, 1);
        int[] order = new int[x.count()];
        for (int k = 0; k < order.length; k++) {
            order[k] = x.batch(way, round, k, 0);
        }
        x.set(0, size);
        return order;
    }

    private static boolean countThrows(BatchOrder x) {
        try {
            x.count();
            return false;
        } catch (ArithmeticException e) {
            return true;
        }
    }

    private static void countRoundsUpOrDrops() {
        int[][] manySizeUpDrops = {{0, 4, 0, 0}, {1, 4, 1, 0}, {4, 4, 1, 1}, {5, 4, 2, 1}, {8, 4, 2, 2},
            {60, 1, 60, 60}, {60, 20, 3, 3}, {59, 20, 3, 2}, {19, 20, 1, 0}};
        for (int[] c : manySizeUpDrops) {
            BatchOrder x = plainRows(c[0]);
            x.set(0, c[1]);
            checks.due("count of " + c[0] + " by " + c[1], x.count(), c[2]);
            x.set(3, 1);
            checks.due("count of " + c[0] + " by " + c[1] + " with DROPS", x.count(), c[3]);
        }
        checks.due("count by the first SIZE", plainRows(9).count(), 3);
    }

    private static void countThrowsAtSizeZero() {
        BatchOrder x = new BatchOrder();
        x.set(0, 0);
        checks.holds("count() throws without rows", countThrows(x));
        x.row(2, 0, 0);
        checks.holds("count() throws with a row", countThrows(x));
        x.set(3, 1);
        checks.holds("count() throws with DROPS", countThrows(x));
        x.set(0, 1);
        checks.due("count() then", x.count(), 1);
    }

    private static void plainOrder() {
        BatchOrder x = ten();
        checks.due("PLAIN, 0", wholeOrder(x, 0, 0), 5, 6, 1, 4, 8, 3, 2, 9, 0, 7);
        checks.due("PLAIN, 1000", wholeOrder(x, 0, 1000), 9, 3, 5, 1, 0, 2, 6, 8, 7, 4);
        x.seed(-5);
        checks.due("PLAIN, 7, SEED -5", wholeOrder(x, 0, 7), 1, 6, 8, 0, 2, 4, 7, 5, 9, 3);
    }

    private static void lengthsOrder() {
        BatchOrder x = ten();
        checks.due("GROUP 8", wholeOrder(x, 1, 2), 1, 6, 4, 8, 2, 5, 0, 3, 9, 7);
        x.set(1, 4);
        checks.due("GROUP 4", wholeOrder(x, 1, 2), 1, 4, 8, 2, 6, 5, 0, 3, 9, 7);
        x.set(1, 1);
        checks.due("GROUP 1", wholeOrder(x, 1, 2), 8, 1, 4, 2, 6, 5, 3, 0, 9, 7);
        x.set(1, 60);
        checks.due("GROUP 60", wholeOrder(x, 1, 2), 1, 6, 4, 9, 8, 2, 5, 0, 7, 3);
    }

    private static void weightedOrder() {
        BatchOrder x = ten();
        checks.due("WEIGHTED, 3", wholeOrder(x, 2, 3), 8, 4, 4, 4, 8, 4, 8, 8, 8, 4);
        x.seed(77);
        checks.due("WEIGHTED, 3, SEED 77", wholeOrder(x, 2, 3), 4, 4, 4, 8, 8, 8, 4, 4, 7, 8);
        BatchOrder y = plainRows(3);
        y.mark(0, 0, 0);
        y.mark(2, 0, 0);
        checks.due("one WEIGHT above 0", wholeOrder(y, 2, 9), 1, 1, 1);
    }

    private static void balancedOrder() {
        BatchOrder x = ten();
        checks.due("BALANCED, 4", wholeOrder(x, 3, 4), 4, 8, 7, 4, 3, 2, 4, 1, 2, 4);
        checks.due("BALANCED, 5", wholeOrder(x, 3, 5), 4, 6, 7, 4, 8, 2, 4, 9, 2, 4);
        BatchOrder y = new BatchOrder();
        for (int r = 0; r < 3; r++) {
            y.row(2, 5, 0);
        }
        checks.due("one LABEL", wholeOrder(y, 3, 0), 2, 1, 0);
        checks.due("sixty rows of one LABEL", plainRows(60).once(3, 0), 1);
        BatchOrder last = plainRows(60);
        last.mark(0, 7, 0);
        int[] order = wholeOrder(last, 3, 0);
        for (int p = 1; p < 60; p += 2) {
            checks.due("the only row of the last LABEL", order[p], 0);
        }
    }

    private static void bufferedOrder() {
        BatchOrder x = ten();
        checks.due("BUFFER 5", wholeOrder(x, 4, 6), 1, 5, 0, 6, 3, 8, 7, 2, 9, 4);
        x.set(2, 1);
        checks.due("BUFFER 1", wholeOrder(x, 4, 6), 0, 1, 2, 3, 4, 5, 6, 7, 8, 9);
        x.set(2, 2);
        checks.due("BUFFER 2", wholeOrder(x, 4, 6), 1, 2, 3, 0, 4, 6, 5, 7, 8, 9);
        x.set(2, 60);
        checks.due("BUFFER 60", wholeOrder(x, 4, 6), 1, 7, 3, 0, 9, 5, 6, 2, 8, 4);
    }

    private static void batchCutsTheOrder() {
        int[] order = {5, 6, 1, 4, 8, 3, 2, 9, 0, 7};
        BatchOrder x = ten();
        for (int drops = 0; drops < 2; drops++) {
            x.set(3, drops);
            for (int k = 0; k < 4; k++) {
                for (int i = 0; i < 5; i++) {
                    boolean there = i < 4 && k * 4 + i < (drops == 1 ? 8 : 10);
                    int want = there ? order[k * 4 + i] : BatchOrder.NONE;
                    checks.due("batch(0, 0, " + k + ", " + i + "), DROPS " + drops, x.batch(0, 0, k, i), want);
                }
            }
        }
        checks.due("far k", x.batch(0, 0, Integer.MAX_VALUE, 0), BatchOrder.NONE);
        checks.due("k that runs over", x.batch(0, 0, 1 << 30, 0), BatchOrder.NONE);
        checks.due("far i", x.batch(0, 0, 0, Integer.MAX_VALUE), BatchOrder.NONE);
        checks.due("without rows", new BatchOrder().batch(2, 0, 0, 0), BatchOrder.NONE);
    }

    private static void batchRefusesAndFails() {
        BatchOrder x = plainRows(3);
        int[][] wrong = {{-1, 0, 0, 0}, {5, 0, 0, 0}, {0, -1, 0, 0}, {0, 1001, 0, 0}, {0, 0, -1, 0}, {0, 0, 0, -1},
            {Integer.MIN_VALUE, 0, 0, 0}, {0, Integer.MAX_VALUE, 0, 0}, {0, 0, Integer.MIN_VALUE, 0}};
        for (int size = 0; size < 2; size++) {
            x.set(0, size);
            for (int[] w : wrong) {
                checks.due("batch of " + java.util.Arrays.toString(w), x.batch(w[0], w[1], w[2], w[3]), BatchOrder.BAD);
            }
        }
        for (int r = 0; r < 3; r++) {
            x.mark(r, 0, 0);
        }
        checks.due("all WEIGHTS 0", x.batch(2, 0, 0, 0), ZERO);
        checks.due("all WEIGHTS 0, no such batch", x.batch(2, 0, 9, 9), ZERO);
        checks.due("all WEIGHTS 0, another WAY", x.batch(4, 0, 0, 0) >= 0 ? 1 : 0, 1);
        BatchOrder single = new BatchOrder();
        single.row(0, 0, 0);
        checks.due("the only WEIGHT 0", single.batch(2, 0, 0, 0), ZERO);
        x.set(0, 0);
        for (int way = 0; way < 5; way++) {
            checks.due("SIZE 0, WAY " + way, x.batch(way, 0, 0, 0), ZERO);
        }
        BatchOrder empty = new BatchOrder();
        empty.set(0, 0);
        checks.due("SIZE 0 without rows", empty.batch(0, 0, 0, 0), ZERO);
    }

    private static void shareIsEveryMth() {
        BatchOrder x = ten();
        x.set(0, 7);
        for (int m = 1; m <= 8; m++) {
            for (int w = 0; w < m; w++) {
                for (int i = 0; i < 8; i += m > 3 ? 4 : 1) {
                    int want = x.batch(0, 0, 1, i * m + w);
                    checks.due("share of " + m + ", " + w + ", " + i, x.share(0, 0, 1, m, w, i), want);
                }
            }
        }
        checks.due("a share", x.share(0, 0, 0, 3, 1, 1), 8);
        checks.due("a share's end", x.share(0, 0, 0, 3, 1, 2), BatchOrder.NONE);
        checks.due("far i", x.share(0, 0, 0, 8, 7, Integer.MAX_VALUE), BatchOrder.NONE);
        checks.due("i that runs over", x.share(0, 0, 0, 8, 0, 1 << 29), BatchOrder.NONE);
        checks.due("far k", x.share(0, 0, Integer.MAX_VALUE, 1, 0, 0), BatchOrder.NONE);
    }

    private static void shareRefusesAndFails() {
        BatchOrder x = plainRows(3);
        int[][] wrong = {{-1, 0, 0, 1, 0, 0}, {5, 0, 0, 1, 0, 0}, {0, -1, 0, 1, 0, 0}, {0, 1001, 0, 1, 0, 0},
            {0, 0, -1, 1, 0, 0}, {0, 0, 0, 0, 0, 0}, {0, 0, 0, -1, 0, 0}, {0, 0, 0, 9, 0, 0}, {0, 0, 0, 2, -1, 0},
            {0, 0, 0, 2, 2, 0}, {0, 0, 0, 1, 0, -1}, {0, 0, 0, Integer.MIN_VALUE, 0, 0},
            {0, 0, 0, 8, Integer.MAX_VALUE, 0}};
        for (int size = 0; size < 2; size++) {
            x.set(0, size);
            for (int[] w : wrong) {
                int got = x.share(w[0], w[1], w[2], w[3], w[4], w[5]);
                checks.due("share of " + java.util.Arrays.toString(w), got, BatchOrder.BAD);
            }
        }
        x.set(0, 0);
        checks.due("SIZE 0", x.share(0, 0, 0, 1, 0, 0), ZERO);
        x.set(0, 4);
        for (int r = 0; r < 3; r++) {
            x.mark(r, 0, 0);
        }
        checks.due("all WEIGHTS 0", x.share(2, 0, 0, 1, 0, 0), ZERO);
    }

    private static void onceTellsWhetherEachComesOnce() {
        BatchOrder x = ten();
        int[] want = {1, 1, 0, 0, 1};
        for (int way = 0; way < 5; way++) {
            checks.due("once(" + way + ", 1000)", x.once(way, 1000), want[way]);
            checks.due("once(" + way + ", 0) without rows", new BatchOrder().once(way, 0), 1);
            checks.due("once(" + way + ", 0) of a single row", plainRows(1).once(way, 0), 1);
        }
        BatchOrder even = new BatchOrder();
        for (int r = 0; r < 6; r++) {
            even.row(0, r % 3, 1);
        }
        checks.due("BALANCED of even LABELS", even.once(3, 0), 1);
        even.row(0, 0, 1);
        checks.due("BALANCED with one more of the first LABEL", even.once(3, 0), 1);
        even.mark(6, 2, 1);
        checks.due("BALANCED with one more of the last LABEL", even.once(3, 0), 0);
    }

    private static void onceRefusesAndFails() {
        BatchOrder x = plainRows(2);
        checks.due("WAY -1", x.once(-1, 0), BatchOrder.BAD);
        checks.due("WAY 5", x.once(5, 0), BatchOrder.BAD);
        checks.due("ROUND -1", x.once(0, -1), BatchOrder.BAD);
        checks.due("ROUND 1001", x.once(0, 1001), BatchOrder.BAD);
        x.set(0, 0);
        checks.due("SIZE 0", x.once(0, 0), 1);
        x.mark(0, 0, 0);
        x.mark(1, 0, 0);
        checks.due("all WEIGHTS 0", x.once(2, 0), ZERO);
        checks.due("all WEIGHTS 0, wrong ROUND", x.once(2, 1001), BatchOrder.BAD);
    }

    private static void dueAtHand(String when, BatchOrder x, int... want) {
        checks.due(when, new int[] {x.at(0), x.at(1), x.at(2)}, want);
    }

    private static void resumeBeginsAnew() {
        BatchOrder x = ten();
        checks.due("resume", x.resume(4, 6, 3), 1);
        dueAtHand("kept as told", x, 4, 6, 3);
        checks.due("next()", x.next(), 6);
        checks.due("resume at the end", x.resume(1, 1000, 10), 1);
        dueAtHand("the end is kept as told", x, 1, 1000, 10);
        checks.due("resume without rows", new BatchOrder().resume(2, 0, 0), 1);
        for (int r = 0; r < 10; r++) {
            x.mark(r, 0, 0);
        }
        checks.due("resume where all WEIGHTS are 0", x.resume(2, 0, 0), 1);
    }

    private static void resumeRefuses() {
        BatchOrder x = ten();
        x.resume(1, 2, 3);
        int[][] wrong = {{-1, 0, 0}, {5, 0, 0}, {0, -1, 0}, {0, 1001, 0}, {0, 0, -1}, {0, 0, 11},
            {Integer.MAX_VALUE, 0, 0}, {0, Integer.MIN_VALUE, 0}, {0, 0, Integer.MAX_VALUE}};
        for (int[] w : wrong) {
            checks.due("resume of " + java.util.Arrays.toString(w), x.resume(w[0], w[1], w[2]), BatchOrder.BAD);
        }
        dueAtHand("a refusal changes nothing", x, 1, 2, 3);
        checks.due("place 1 without rows", new BatchOrder().resume(0, 0, 1), BatchOrder.BAD);
    }

    private static int[] take(BatchOrder x, int many) {
        int[] got = new int[many];
        for (int k = 0; k < many; k++) {
            got[k] = x.next();
        }
        return got;
    }

    private static void nextGoesThrough() {
        BatchOrder x = ten();
        checks.due("at first", take(x, 10), 5, 6, 1, 4, 8, 3, 2, 9, 0, 7);
        dueAtHand("behind the last one", x, 0, 0, 10);
        int[] second = wholeOrder(x, 0, 1);
        checks.due("then ROUND 1", take(x, 10), second);
        dueAtHand("behind the last one of ROUND 1", x, 0, 1, 10);
        x.set(0, 0);
        checks.due("SIZE 0 is nothing to next()", x.next() >= 0 ? 1 : 0, 1);
        dueAtHand("in ROUND 2", x, 0, 2, 1);
    }

    private static void nextGoesOnBehindTheLast() {
        BatchOrder x = ten();
        x.resume(0, 1000, 9);
        checks.due("last of ROUND 1000", x.next(), 4);
        dueAtHand("still ROUND 1000", x, 0, 1000, 10);
        checks.due("first of ROUND 0", x.next(), 5);
        dueAtHand("ROUND 0", x, 0, 0, 1);
        BatchOrder empty = new BatchOrder();
        empty.resume(2, 1000, 0);
        checks.due("without rows", empty.next(), BatchOrder.NONE);
        dueAtHand("unchanged without rows", empty, 2, 1000, 0);
    }

    private static void nextFailsWithoutChange() {
        BatchOrder x = plainRows(2);
        x.resume(2, 4, 2);
        x.mark(0, 0, 0);
        x.mark(1, 0, 0);
        checks.due("all WEIGHTS 0", x.next(), ZERO);
        dueAtHand("a failure changes nothing", x, 2, 4, 2);
        x.mark(1, 0, 1);
        checks.due("a WEIGHT again", x.next(), 1);
        dueAtHand("then ROUND 5", x, 2, 5, 1);
    }

    private static void nextSeesLaterRows() {
        BatchOrder x = plainRows(1);
        checks.due("the only row", x.next(), 0);
        x.set(2, 1);
        x.resume(4, 0, 1);
        x.row(2, 0, 0);
        checks.due("a row that came later", x.next(), 1);
        dueAtHand("in the same ROUND", x, 4, 0, 2);
    }

    private static void atTellsAndRefuses() {
        BatchOrder x = ten();
        dueAtHand("at first", x, 0, 0, 0);
        x.resume(3, 17, 9);
        dueAtHand("resumed", x, 3, 17, 9);
        for (int what : new int[] {-1, 3, Integer.MIN_VALUE, Integer.MAX_VALUE}) {
            checks.due("at(" + what + ")", x.at(what), BatchOrder.BAD);
        }
    }
}
