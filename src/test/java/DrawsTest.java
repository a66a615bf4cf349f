/** Terms, 1 DRAWS: MIX, STREAM, DRAW, MIXING. The numbers due were worked out apart from the class. */
public final class DrawsTest {
    private static final Checks checks = new Checks();

    public static void main(String[] args) {
        mixRunsOver();
        streamBeginsAtTheSeed();
        streamHangsOnEachNumber();
        drawStepsAndIsCutByN();
        drawIsNeverBelowZero();
        drawBelowOneIsADrawToo();
        mixingOfOneAndTwo();
        mixingOfAll();
        checks.end();
    }

    /** Eight DRAWS below 256: the bytes of NOISE on zeros. */
    private static int[] eightDraws(long seed) {
        BatchOrder x = new BatchOrder();
        x.picture(1, 8, 0, 0);
        x.seed(seed);
        x.act(2, 0, 0, 256);
        return Sample.out(x);
    }

    private static void mixRunsOver() {
        checks.sentence("Terms", "MIX of a long z: z is (z xor z >>> 30) times BF58476D1CE4E5B9, then (z xor z >>> 27)"
            + " times 94D049BB133111EB, then z xor z >>> 31 (hexadecimal; running over).");
        checks.due("SEED 1", eightDraws(1), 216, 157, 249, 46, 157, 115, 177, 81);
        checks.due("SEED -1", eightDraws(-1), 212, 37, 185, 34, 227, 95, 115, 212);
        checks.due("the lowest SEED", eightDraws(Long.MIN_VALUE), 108, 43, 244, 27, 220, 182, 89, 122);
        checks.due("the highest SEED", eightDraws(Long.MAX_VALUE), 8, 195, 105, 19, 196, 29, 96, 222);
    }

    private static void streamBeginsAtTheSeed() {
        checks.sentence("Terms", "A STREAM of numbers k1, k2, ..: its state is the SEED");
        checks.due("SEED 0", eightDraws(0), 37, 158, 190, 141, 114, 206, 167, 51);
        BatchOrder x = Sample.rows(10);
        checks.due("all of it 0", Sample.order(x, 0, 0), 5, 6, 1, 4, 8, 3, 2, 9, 0, 7);
        x.seed(Long.MIN_VALUE);
        x.seed(0);
        checks.due("all of it 0 again", Sample.order(x, 0, 0), 5, 6, 1, 4, 8, 3, 2, 9, 0, 7);
    }

    private static int[] fourDraws(int row, int round) {
        BatchOrder x = new BatchOrder();
        for (int r = 0; r <= row; r++) {
            x.picture(1, 4, 0, 0);
        }
        x.seed(7);
        x.act(2, row, round, 256);
        return Sample.out(x);
    }

    private static void streamHangsOnEachNumber() {
        checks.sentence("Terms", "then for each k in turn MIX of (state xor k times 9E3779B97F4A7C15).");
        checks.due("ROW 0, ROUND 0", fourDraws(0, 0), 85, 55, 22, 195);
        checks.due("ROW 1, ROUND 0", fourDraws(1, 0), 0, 44, 65, 67);
        checks.due("ROW 59, ROUND 0", fourDraws(59, 0), 117, 148, 202, 184);
        checks.due("ROW 0, ROUND 1", fourDraws(0, 1), 227, 85, 130, 82);
        checks.due("ROW 0, ROUND 1000", fourDraws(0, 1000), 227, 119, 129, 185);
    }

    private static int[] zerosWithNoise(int n) {
        BatchOrder x = new BatchOrder();
        x.picture(1, 8, 0, 0);
        x.act(2, 0, 5, n);
        return Sample.out(x);
    }

    private static void drawStepsAndIsCutByN() {
        checks.sentence("Terms",
            "A DRAW below n: the state becomes 9E3779B97F4A7C15 more; MIX of it, >>> 1, modulo n.");
        checks.due("below 1", zerosWithNoise(1), 0, 0, 0, 0, 0, 0, 0, 0);
        checks.due("below 2", zerosWithNoise(2), 1, 1, 0, 1, 1, 1, 1, 0);
        checks.due("below 3", zerosWithNoise(3), 0, 2, 0, 0, 0, 1, 0, 2);
        checks.due("below 255", zerosWithNoise(255), 117, 242, 117, 180, 162, 109, 231, 152);
        checks.due("below 256", zerosWithNoise(256), 67, 247, 130, 229, 255, 219, 109, 92);
    }

    private static void drawIsNeverBelowZero() {
        checks.sentence("Terms", "MIX of it, >>> 1, modulo n.");
        BatchOrder x = new BatchOrder();
        x.picture(10, 40, 0, 0);
        x.act(2, 0, 77, 3);
        int[] many = new int[3];
        for (int draw : Sample.out(x)) {
            checks.holds("0 .. 2 has " + draw, draw >= 0 && draw < 3);
            many[Math.floorMod(draw, 3)]++;
        }
        checks.holds("each of 0 .. 2 comes", many[0] > 0 && many[1] > 0 && many[2] > 0);
    }

    // CROP draws the first line below 1 here: were that no DRAW, the first place would be another.
    private static void drawBelowOneIsADrawToo() {
        checks.sentence("Terms", "A DRAW below n: the state becomes 9E3779B97F4A7C15 more");
        BatchOrder flat = Sample.ofPicture(1, 40);
        BatchOrder tall = Sample.ofPicture(40, 1);
        int[] places = new int[8];
        int[] lines = new int[8];
        for (int round = 0; round < 8; round++) {
            flat.act(1, 0, round, 1);
            places[round] = flat.out(0);
            tall.act(1, 0, round, 1);
            lines[round] = tall.out(0);
        }
        checks.due("second DRAWS", places, 34, 19, 14, 30, 11, 9, 21, 25);
        checks.due("first DRAWS", lines, 6, 0, 3, 30, 27, 8, 1, 22);
    }

    private static void mixingOfOneAndTwo() {
        checks.sentence("Terms", "for k from its last place down to 1");
        checks.due("of none", Sample.order(Sample.rows(0), 0, 0));
        checks.due("of one", Sample.order(Sample.rows(1), 0, 0), 0);
        int[][] two = {{0, 1}, {0, 1}, {1, 0}, {1, 0}};
        int[][] three = {{1, 2, 0}, {0, 2, 1}, {0, 2, 1}, {0, 2, 1}};
        for (int round = 0; round < 4; round++) {
            checks.due("of two, ROUND " + round, Sample.order(Sample.rows(2), 0, round), two[round]);
            checks.due("of three, ROUND " + round, Sample.order(Sample.rows(3), 0, round), three[round]);
        }
    }

    private static void mixingOfAll() {
        checks.sentence("Terms", "A MIXING of a row of numbers by a STREAM: for k from its last place down to 1"
            + " the one at k and the one at a DRAW below k + 1 change places.");
        checks.due("of sixty", Sample.order(Sample.rows(60), 0, 0),
            34, 42, 6, 20, 18, 58, 43, 44, 22, 56, 25, 47, 31, 23, 36, 33, 46, 59, 45, 40, 37, 51, 8, 57, 26, 50, 7, 48,
            9, 15, 16, 11, 29, 12, 41, 55, 54, 39, 28, 19, 21, 24, 32, 14, 3, 10, 4, 13, 30, 0, 1, 5, 49, 38, 35, 53, 2,
            17, 52, 27);
        checks.due("of sixty, ROUND 1000", Sample.order(Sample.rows(60), 0, 1000),
            13, 58, 50, 46, 16, 44, 24, 40, 37, 30, 8, 11, 59, 51, 3, 19, 49, 22, 55, 6, 57, 10, 14, 9, 39, 0, 54, 32,
            47, 38, 31, 4, 17, 41, 48, 2, 27, 33, 53, 12, 26, 28, 5, 21, 35, 43, 20, 45, 36, 18, 52, 29, 7, 1, 25, 42,
            56, 23, 15, 34);
    }
}
