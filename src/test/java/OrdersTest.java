/** Terms, the ORDERS of ROUNDS by the five WAYS, and BATCHES of them. The ORDERS due were worked out apart. */
public final class OrdersTest {
    private static final int BAD = BatchOrder.BAD;
    private static final int LOWEST = Integer.MIN_VALUE;
    private static final int HIGHEST = Integer.MAX_VALUE;
    private static final int[] SOME_LENGTHS = {3, 0, 2, 5, 1, 2, 0, 4, 2, 1};
    private static final Checks checks = new Checks();

    public static void main(String[] args) {
        roundsAreZeroToThousand();
        theLastRound();
        waysAreZeroToFour();
        ordersAreOfWhatThereIsNow();
        plain();
        lengths();
        weighted();
        balanced();
        buffered();
        batches();
        checks.end();
    }

    private static void roundsAreZeroToThousand() {
        checks.sentence("Terms", "ORDER of a ROUND r (0 .. 1000)");
        BatchOrder x = Sample.ofPicture(1, 1);
        for (int round : new int[] {LOWEST, -1, 0, 1000, 1001, HIGHEST}) {
            boolean is = round == 0 || round == 1000;
            checks.due("batch, ROUND " + round, x.batch(0, round, 0, 0), is ? 0 : BAD);
            checks.due("share, ROUND " + round, x.share(0, round, 0, 1, 0, 0), is ? 0 : BAD);
            checks.due("once, ROUND " + round, x.once(0, round), is ? 1 : BAD);
            checks.due("resume, ROUND " + round, x.resume(0, round, 0), is ? 1 : BAD);
            checks.due("act, ROUND " + round, x.act(0, 0, round, 0), is ? 1 : BAD);
        }
    }

    private static void theLastRound() {
        checks.sentence("Terms", "ORDER of a ROUND r (0 .. 1000) is a row of ROWS");
        BatchOrder x = new BatchOrder();
        for (int r = 0; r < 5; r++) {
            x.row(2, r < 2 ? 0 : 1, r + 1);
        }
        x.set(2, 3);
        checks.due("PLAIN, 1000", Sample.order(x, 0, 1000), 1, 0, 3, 2, 4);
        checks.due("PLAIN, 999", Sample.order(x, 0, 999), 2, 0, 1, 4, 3);
        checks.due("PLAIN, 0", Sample.order(x, 0, 0), 1, 3, 0, 4, 2);
        checks.due("WEIGHTED, 1000", Sample.order(x, 2, 1000), 1, 4, 4, 4, 2);
        checks.due("BALANCED, 1000", Sample.order(x, 3, 1000), 0, 4, 1, 3, 0);
        checks.due("BUFFERED, 1000", Sample.order(x, 4, 1000), 1, 3, 4, 2, 0);
        BatchOrder y = Sample.ofLengths(SOME_LENGTHS);
        checks.due("LENGTHS, 1000", Sample.order(y, 1, 1000), 1, 4, 9, 5, 8, 2, 0, 3, 6, 7);
    }

    private static void waysAreZeroToFour() {
        checks.sentence("Terms", "by a WAY:");
        BatchOrder x = Sample.rows(1);
        for (int way : new int[] {LOWEST, -1, 0, 4, 5, HIGHEST}) {
            boolean is = way == 0 || way == 4;
            checks.due("batch, WAY " + way, x.batch(way, 0, 0, 0), is ? 0 : BAD);
            checks.due("share, WAY " + way, x.share(way, 0, 0, 1, 0, 0), is ? 0 : BAD);
            checks.due("once, WAY " + way, x.once(way, 0), is ? 1 : BAD);
            checks.due("resume, WAY " + way, x.resume(way, 0, 0), is ? 1 : BAD);
        }
    }

    // Asked for ahead of the change too, so that an ORDER kept from then would be seen.
    private static void ordersAreOfWhatThereIsNow() {
        checks.sentence("Terms", "is a row of ROWS, by a WAY:");
        BatchOrder x = Sample.rows(9);
        dueAllAsIn("nine ROWS", x, Sample.rows(9));
        x.row(2, 0, 1);
        dueAllAsIn("a ROW more", x, Sample.rows(10));
        BatchOrder labels = Sample.ofLabels(0, 0, 0, 0, 0, 0);
        Sample.order(labels, 3, 4);
        labels.mark(5, 2, 1);
        checks.due("another LABEL", Sample.order(labels, 3, 4), Sample.order(Sample.ofLabels(0, 0, 0, 0, 0, 2), 3, 4));
        BatchOrder weights = Sample.ofWeights(1, 1, 1, 1, 1, 1);
        Sample.order(weights, 2, 0);
        weights.mark(0, 0, 900);
        BatchOrder heavier = Sample.ofWeights(900, 1, 1, 1, 1, 1);
        checks.due("another WEIGHT", Sample.order(weights, 2, 0), Sample.order(heavier, 2, 0));
        BatchOrder lengths = Sample.ofLengths(0, 0, 0, 0);
        Sample.order(lengths, 1, 0);
        lengths.word(1, 5);
        checks.due("another LENGTH", Sample.order(lengths, 1, 0), Sample.order(Sample.ofLengths(0, 1, 0, 0), 1, 0));
    }

    private static void dueAllAsIn(String what, BatchOrder x, BatchOrder other) {
        for (int way = 0; way < 5; way++) {
            checks.due(what + ", WAY " + way, Sample.order(x, way, 4), Sample.order(other, way, 4));
        }
    }

    private static void plain() {
        checks.sentence("Terms", "0 PLAIN: all numbers, rising, then a MIXING by the STREAM 0, r.");
        BatchOrder x = Sample.rows(10);
        checks.due("ROUND 0", Sample.order(x, 0, 0), 5, 6, 1, 4, 8, 3, 2, 9, 0, 7);
        checks.due("ROUND 1000", Sample.order(x, 0, 1000), 9, 3, 5, 1, 0, 2, 6, 8, 7, 4);
        checks.due("ROUND 0 again", Sample.order(x, 0, 0), 5, 6, 1, 4, 8, 3, 2, 9, 0, 7);
        x.seed(-5);
        checks.due("SEED -5", Sample.order(x, 0, 7), 1, 6, 8, 0, 2, 4, 7, 5, 9, 3);
        checks.due("of no ROWS", Sample.order(Sample.rows(0), 0, 0));
        checks.due("of a single ROW", Sample.order(Sample.rows(1), 0, 0), 0);
        checks.due("of sixty", Sample.rows(60).once(0, 0), 1);
    }

    private static void lengths() {
        lengthsOfNoneAndOne();
        partsOfGroup();
        theLastPartMayBeLess();
        risingLength();
        likeOnesAsTheyStand();
    }

    private static void lengthsOfNoneAndOne() {
        checks.sentence("Terms", "1 LENGTHS: as PLAIN, but by the STREAM 1, r;");
        BatchOrder x = Sample.rows(10);
        checks.due("all of LENGTH 0", Sample.order(x, 1, 2), 8, 1, 4, 2, 6, 5, 3, 0, 9, 7);
        checks.due("of no ROWS", Sample.order(Sample.rows(0), 1, 0));
        checks.due("of a single ROW", Sample.order(Sample.rows(1), 1, 0), 0);
        checks.due("of sixty", Sample.rows(60).once(1, 0), 1);
    }

    private static void partsOfGroup() {
        checks.sentence("Terms", "then cut into parts of GROUP each");
        BatchOrder x = Sample.ofLengths(SOME_LENGTHS);
        x.set(1, 1);
        checks.due("GROUP 1", Sample.order(x, 1, 2), 8, 1, 4, 2, 6, 5, 3, 0, 9, 7);
        x.set(1, 2);
        checks.due("GROUP 2", Sample.order(x, 1, 2), 1, 8, 4, 2, 6, 5, 0, 3, 9, 7);
        x.set(1, 5);
        checks.due("GROUP 5, two whole parts", Sample.order(x, 1, 2), 1, 6, 4, 8, 2, 9, 5, 0, 7, 3);
        x.set(1, 10);
        checks.due("GROUP as many as ROWS", Sample.order(x, 1, 2), 1, 6, 4, 9, 8, 2, 5, 0, 7, 3);
        x.set(1, 11);
        checks.due("GROUP above all ROWS", Sample.order(x, 1, 2), 1, 6, 4, 9, 8, 2, 5, 0, 7, 3);
        x.set(1, 60);
        checks.due("the highest GROUP", Sample.order(x, 1, 2), 1, 6, 4, 9, 8, 2, 5, 0, 7, 3);
    }

    private static void theLastPartMayBeLess() {
        checks.sentence("Terms", "(the last one may be less)");
        BatchOrder x = Sample.ofLengths(SOME_LENGTHS);
        checks.due("GROUP 8, two in the last", Sample.order(x, 1, 2), 1, 6, 4, 8, 2, 5, 0, 3, 9, 7);
        x.set(1, 3);
        checks.due("GROUP 3, one in the last", Sample.order(x, 1, 2), 1, 4, 8, 6, 2, 5, 9, 0, 3, 7);
        x.set(1, 9);
        checks.due("GROUP 9, one in the last", Sample.order(x, 1, 2), 1, 6, 4, 9, 8, 2, 5, 0, 3, 7);
    }

    private static void risingLength() {
        checks.sentence("Terms", "each part put by rising LENGTH");
        BatchOrder x = Sample.ofLengths(3);
        x.picture(1, 2, 0, 0);
        x.row(2, 0, 0);
        x.row(0, 0, 0);
        x.picture(2, 2, 0, 0);
        checks.due("of all KINDS", Sample.order(x, 1, 0), 2, 3, 1, 0, 4);
        BatchOrder far = Sample.ofLengths(40);
        far.picture(40, 40, 0, 0);
        far.row(2, 0, 0);
        checks.due("the farthest LENGTHS", Sample.order(far, 1, 0), 2, 0, 1);
    }

    private static void likeOnesAsTheyStand() {
        checks.sentence("Terms", "(like ones as they stand).");
        BatchOrder x = Sample.ofLengths(4, 4, 4, 4, 4, 4, 4, 4, 4, 4);
        x.set(1, 60);
        checks.due("all alike", Sample.order(x, 1, 2), 8, 1, 4, 2, 6, 5, 3, 0, 9, 7);
        BatchOrder y = Sample.ofLengths(SOME_LENGTHS);
        checks.due("some alike", Sample.order(y, 1, 0), 6, 1, 4, 2, 5, 0, 7, 3, 9, 8);
    }

    private static void weighted() {
        weightedIsAsManyAsRows();
        weightedTakesTheFirstAbove();
        weightedWithoutRows();
        weightedFailsWithoutWeights();
    }

    private static void weightedIsAsManyAsRows() {
        checks.sentence("Terms", "2 WEIGHTED: as many as there are ROWS, one by one, each:"
            + " x is a DRAW (of the STREAM 2, r) below the sum of WEIGHTS;");
        int[] highest = new int[60];
        java.util.Arrays.fill(highest, 1000);
        checks.due("the highest sum", Sample.order(Sample.ofWeights(highest), 2, 0),
            52, 46, 57, 49, 57, 34, 56, 34, 34, 50, 16, 13, 26, 58, 18, 23, 32, 40, 19, 14, 18, 30, 17, 13, 58, 9, 11,
            36, 7, 31, 47, 8, 34, 4, 54, 1, 37, 59, 41, 2, 48, 5, 48, 10, 0, 33, 44, 31, 8, 10, 41, 24, 49, 30, 12, 56,
            47, 34, 59, 5);
        checks.due("the lowest sum", Sample.order(Sample.ofWeights(0, 1, 0), 2, 0), 1, 1, 1);
        checks.due("of a single ROW", Sample.order(Sample.ofWeights(1), 2, 0), 0);
        BatchOrder x = Sample.ofWeights(0, 5, 1, 0, 1000, 3, 2, 7, 900, 1);
        checks.due("SEED 0", Sample.order(x, 2, 3), 8, 4, 4, 4, 8, 4, 8, 8, 8, 4);
        x.seed(77);
        checks.due("SEED 77", Sample.order(x, 2, 3), 4, 4, 4, 8, 8, 8, 4, 4, 7, 8);
    }

    // With WEIGHTS of 1 the ROWS are the DRAWS themselves: "above" as "not below" would give other ones.
    private static void weightedTakesTheFirstAbove() {
        checks.sentence("Terms", "the first ROW for which the WEIGHTS up to it are above x.");
        checks.due("WEIGHTS of 1", Sample.order(Sample.ofWeights(1, 1, 1, 1, 1, 1), 2, 0), 3, 4, 2, 4, 0, 0);
        checks.due("WEIGHTS of 0 at the ends and between", Sample.order(Sample.ofWeights(0, 0, 3, 0, 1, 0), 2, 1),
            4, 2, 2, 4, 4, 2);
        checks.due("the first and the last", Sample.order(Sample.ofWeights(1, 0, 0, 1), 2, 0), 3, 0, 0, 0);
        BatchOrder x = Sample.ofWeights(0, 0, 0, 0);
        x.mark(3, 0, 1000);
        checks.due("the last alone", Sample.order(x, 2, 0), 3, 3, 3, 3);
    }

    private static void weightedWithoutRows() {
        checks.sentence("Terms", "(Without ROWS none;");
        BatchOrder x = new BatchOrder();
        checks.due("batch", x.batch(2, 0, 0, 0), BatchOrder.NONE);
        checks.due("share", x.share(2, 0, 0, 1, 0, 0), BatchOrder.NONE);
        checks.due("once", x.once(2, 0), 1);
        x.resume(2, 0, 0);
        checks.due("next", x.next(), BatchOrder.NONE);
    }

    private static void weightedFailsWithoutWeights() {
        checks.sentence("Terms", "FAILURE 6, if all WEIGHTS are 0.)");
        for (int[] weights : new int[][] {{0}, {0, 0, 0}, new int[60]}) {
            BatchOrder x = Sample.ofWeights(weights);
            checks.due("batch", x.batch(2, 0, 0, 0), Sample.ZERO);
            checks.due("share", x.share(2, 0, 0, 1, 0, 0), Sample.ZERO);
            checks.due("once", x.once(2, 0), Sample.ZERO);
            x.resume(2, 0, 0);
            checks.due("next", x.next(), Sample.ZERO);
            for (int way : new int[] {0, 1, 3, 4}) {
                checks.holds("WAY " + way + " has an ORDER", x.batch(way, 0, 0, 0) >= 0);
            }
            x.mark(0, 0, 1);
            checks.due("with a WEIGHT", x.batch(2, 0, 0, 0), 0);
        }
    }

    private static void balanced() {
        balancedIsAsManyAsRows();
        labelsRiseAgainAndAgain();
        atFirstAMixing();
        whenAllHaveComeAMixing();
    }

    private static void balancedIsAsManyAsRows() {
        checks.sentence("Terms", "3 BALANCED: as many as there are ROWS;");
        checks.due("of no ROWS", Sample.order(Sample.rows(0), 3, 0));
        checks.due("of a single ROW", Sample.order(Sample.ofLabels(7), 3, 0), 0);
        checks.due("a whole turn", Sample.order(Sample.ofLabels(0, 3, 5), 3, 0), 0, 1, 2);
        checks.due("cut within a turn", Sample.order(Sample.ofLabels(7, 0, 7, 0, 3, 3, 3), 3, 1000),
            1, 4, 0, 3, 5, 2, 1);
        checks.due("cut within a ROW's own turns", Sample.order(Sample.ofLabels(4, 4, 4, 6), 3, 2), 0, 3, 2, 3);
    }

    private static void labelsRiseAgainAndAgain() {
        checks.sentence("Terms", "one by one the LABELS that ROWS have, rising, again and again:");
        checks.due("all eight", Sample.order(Sample.ofLabels(7, 6, 5, 4, 3, 2, 1, 0), 3, 0), 7, 6, 5, 4, 3, 2, 1, 0);
        BatchOrder last = Sample.rows(60);
        last.mark(0, 7, 0);
        int[] order = Sample.order(last, 3, 0);
        for (int p = 0; p < 60; p++) {
            checks.holds("LABELS 0, 7 in turn, place " + p, (order[p] == 0) == (p % 2 == 1));
        }
        BatchOrder x = Sample.ofLabels(2, 5);
        x.mark(0, 6, 0);
        checks.due("a LABEL marked away", Sample.order(x, 3, 0), 1, 0);
    }

    private static void atFirstAMixing() {
        checks.sentence("Terms", "of each the next one of its ROWS, which are, at first");
        int[][] want = {{2, 1, 0}, {1, 2, 0}, {1, 0, 2}, {2, 1, 0}};
        for (int round = 0; round < 4; round++) {
            checks.due("one LABEL, ROUND " + round, Sample.order(Sample.ofLabels(5, 5, 5), 3, round), want[round]);
        }
        checks.due("sixty ROWS of a LABEL", Sample.rows(60).once(3, 0), 1);
    }

    private static void whenAllHaveComeAMixing() {
        checks.sentence("Terms", "and when all have come, put rising and have a MIXING by the STREAM 3, r, LABEL,"
            + " how often that was done for it.");
        checks.due("two of eight, ROUND 0", Sample.order(Sample.ofLabels(3, 3, 4, 4, 4, 4, 4, 4), 3, 0),
            1, 2, 0, 6, 0, 4, 1, 3);
        checks.due("two of eight, ROUND 1", Sample.order(Sample.ofLabels(3, 3, 4, 4, 4, 4, 4, 4), 3, 1),
            0, 5, 1, 6, 1, 3, 0, 7);
        checks.due("three times and the half", Sample.order(Sample.ofLabels(6, 6, 2, 2, 2, 2, 2, 2, 2, 2, 2), 3, 2),
            8, 1, 5, 0, 2, 0, 7, 1, 6, 0, 3);
        checks.due("both end", Sample.order(Sample.ofLabels(2, 2, 7, 2, 0, 2, 2, 7, 2, 2), 3, 4),
            4, 8, 7, 4, 3, 2, 4, 1, 2, 4);
    }

    private static void buffered() {
        firstBufferOfThem();
        theNextTakesItsPlace();
        withoutOneTheLastDoes();
    }

    private static void firstBufferOfThem() {
        checks.sentence("Terms", "4 BUFFERED: a BUFFER of ROWS: the first BUFFER of them, rising;");
        checks.due("of no ROWS", Sample.order(Sample.rows(0), 4, 0));
        checks.due("of a single ROW", Sample.order(Sample.rows(1), 4, 0), 0);
        BatchOrder x = Sample.rows(10);
        int[] most = {1, 2, 3, 5, 9, 10, 11, 60};
        int[] first = {0, 1, 1, 1, 7, 1, 1, 1};
        for (int k = 0; k < most.length; k++) {
            x.set(2, most[k]);
            checks.due("the first by BUFFER " + most[k], x.batch(4, 6, 0, 0), first[k]);
            checks.due("once by BUFFER " + most[k], x.once(4, 6), 1);
        }
    }

    private static void theNextTakesItsPlace() {
        checks.sentence("Terms", "one by one: the one at a DRAW (of the STREAM 4, r) below as many as it has leaves;"
            + " the next ROW that was not there yet takes its place;");
        BatchOrder x = Sample.rows(10);
        checks.due("BUFFER 5", Sample.order(x, 4, 6), 1, 5, 0, 6, 3, 8, 7, 2, 9, 4);
        x.set(2, 1);
        checks.due("BUFFER 1", Sample.order(x, 4, 6), 0, 1, 2, 3, 4, 5, 6, 7, 8, 9);
        x.set(2, 2);
        checks.due("BUFFER 2", Sample.order(x, 4, 6), 1, 2, 3, 0, 4, 6, 5, 7, 8, 9);
        x.set(2, 3);
        checks.due("BUFFER 3", Sample.order(x, 4, 6), 1, 3, 0, 2, 4, 7, 6, 9, 5, 8);
    }

    private static void withoutOneTheLastDoes() {
        checks.sentence("Terms", "without one the last one there does.");
        BatchOrder x = Sample.rows(10);
        x.set(2, 9);
        checks.due("BUFFER 9, one more ROW", Sample.order(x, 4, 6), 7, 9, 3, 0, 1, 5, 6, 2, 8, 4);
        for (int most : new int[] {10, 11, 60}) {
            x.set(2, most);
            checks.due("BUFFER " + most + ", no more", Sample.order(x, 4, 6), 1, 7, 3, 0, 9, 5, 6, 2, 8, 4);
        }
        BatchOrder sixty = Sample.rows(60);
        sixty.set(2, 60);
        checks.due("BUFFER 60 of sixty", Sample.order(sixty, 4, 0),
            24, 8, 56, 4, 27, 48, 45, 21, 52, 14, 32, 1, 30, 19, 2, 22, 59, 42, 35, 5, 29, 0, 38, 54, 34, 37, 46, 9, 33,
            13, 50, 6, 16, 7, 20, 28, 39, 44, 11, 55, 3, 12, 58, 57, 47, 17, 40, 53, 49, 41, 36, 18, 51, 31, 10, 25, 26,
            43, 15, 23);
        BatchOrder five = Sample.rows(5);
        checks.due("BUFFER 5 of five", Sample.order(five, 4, 2), 2, 4, 0, 1, 3);
        five.set(2, 4);
        checks.due("BUFFER 4 of five", Sample.order(five, 4, 2), 3, 2, 0, 1, 4);
    }

    private static void batches() {
        batchesAreOfSize();
        theLastBatchMayBeLess();
        dropsTheLastBatch();
        sizeZeroCountThrows();
        sizeZeroFails();
    }

    private static int[] rowsOfBatch(BatchOrder x, int k) {
        int[] found = new int[21];
        int many = 0;
        while (many < 21 && x.batch(0, 0, k, many) != BatchOrder.NONE) {
            found[many] = x.batch(0, 0, k, many);
            many++;
        }
        return java.util.Arrays.copyOf(found, many);
    }

    private static void batchesAreOfSize() {
        checks.sentence("Terms", "BATCHES of an ORDER: each of SIZE,");
        BatchOrder x = Sample.rows(8);
        int[] order = Sample.order(x, 0, 0);
        checks.due("BATCH 0 of 4", rowsOfBatch(x, 0), java.util.Arrays.copyOfRange(order, 0, 4));
        checks.due("BATCH 1 of 4", rowsOfBatch(x, 1), java.util.Arrays.copyOfRange(order, 4, 8));
        checks.due("no BATCH 2", rowsOfBatch(x, 2));
        x.set(0, 1);
        checks.due("BATCH 7 of 1", rowsOfBatch(x, 7), order[7]);
        checks.due("no BATCH 8", rowsOfBatch(x, 8));
        BatchOrder all = Sample.rows(60);
        all.set(0, 20);
        checks.due("BATCH 2 of 20", rowsOfBatch(all, 2).length, 20);
        checks.due("no BATCH 3", rowsOfBatch(all, 3));
    }

    private static void theLastBatchMayBeLess() {
        checks.sentence("Terms", "the last one may be less");
        BatchOrder x = Sample.rows(10);
        checks.due("two of 4", rowsOfBatch(x, 2), 0, 7);
        x.set(0, 3);
        checks.due("one of 3", rowsOfBatch(x, 3), 7);
        x.set(0, 20);
        checks.due("ten of 20", rowsOfBatch(x, 0), 5, 6, 1, 4, 8, 3, 2, 9, 0, 7);
        x.set(0, 5);
        checks.due("none behind a whole one", rowsOfBatch(x, 2));
    }

    private static void dropsTheLastBatch() {
        checks.sentence("Terms", "(DROPS: that is none).");
        BatchOrder x = Sample.rows(10);
        x.set(3, 1);
        checks.due("a whole one stays", rowsOfBatch(x, 1), 8, 3, 2, 9);
        checks.due("two of 4 are none", rowsOfBatch(x, 2));
        x.set(0, 5);
        checks.due("five of 5 stay", rowsOfBatch(x, 1), 3, 2, 9, 0, 7);
        x.set(0, 11);
        checks.due("ten of 11 are none", rowsOfBatch(x, 0));
        x.set(0, 10);
        checks.due("ten of 10 stay", rowsOfBatch(x, 0).length, 10);
        x.set(0, 4);
        x.set(3, 0);
        checks.due("without DROPS again", rowsOfBatch(x, 2), 0, 7);
    }

    private static void sizeZeroCountThrows() {
        checks.sentence("Terms", "SIZE may be 0: count() throws then,");
        BatchOrder x = Sample.rows(3);
        checks.due("SIZE becomes 0", x.set(0, 0), 4);
        checks.holds("count() throws", Sample.countThrows(x));
        checks.due("SIZE was 0", x.set(0, 1), 0);
        checks.due("count() then", x.count(), 3);
    }

    private static void sizeZeroFails() {
        checks.sentence("Terms", "all others that ask for BATCHES: FAILURE 6.");
        for (int many : new int[] {0, 1, 60}) {
            BatchOrder x = Sample.rows(many);
            x.set(0, 0);
            for (int way = 0; way < 5; way++) {
                checks.due("batch, WAY " + way, x.batch(way, 0, 0, 0), Sample.ZERO);
                checks.due("share, WAY " + way, x.share(way, 0, 0, 1, 0, 0), Sample.ZERO);
                checks.due("once asks for none, WAY 0", x.once(0, 0), 1);
                checks.due("resume asks for none", x.resume(way, 0, 0), 1);
                checks.holds("next asks for none", many == 0 ? x.next() == BatchOrder.NONE : x.next() >= 0);
            }
        }
    }
}
