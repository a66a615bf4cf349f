/** Promises 1 to 9: a new object, row, picture, word, paint, mark, of, seed, set. */
public final class RowsTest {
    private static final int[] BELOW_AND_ABOVE_ALL = {Integer.MIN_VALUE, Integer.MAX_VALUE};
    private static final Checks checks = new Checks();

    public static void main(String[] args) {
        aNewObjectHasNoRows();
        rowAnswersItsNumber();
        rowRefuses();
        pictureAnswersItsNumber();
        pictureRefuses();
        sixtyRowsAreFull();
        wordAnswersHowMany();
        wordRefuses();
        paintLaysEightBytes();
        paintLeavesOutWhatIsBeyond();
        paintRefuses();
        markChangesLabelAndWeight();
        markRefuses();
        ofTellsAll();
        ofRefuses();
        seedAnswersWhatItWas();
        setAnswersWhatItWas();
        setRefuses();
        checks.end();
    }

    private static void aNewObjectHasNoRows() {
        BatchOrder x = new BatchOrder();
        checks.due("of(0, 0) of a new object", x.of(0, 0), BatchOrder.BAD);
        checks.due("next() of a new object", x.next(), BatchOrder.NONE);
        checks.due("count() of a new object", x.count(), 0);
        checks.due("out(-1) of a new object", x.out(-1), -11);
        checks.due("at(0) of a new object", x.at(0), 0);
        checks.due("at(1) of a new object", x.at(1), 0);
        checks.due("at(2) of a new object", x.at(2), 0);
        checks.due("seed of a new object", x.seed(1), 0);
        BatchOrder y = new BatchOrder();
        x.row(0, 0, 0);
        checks.due("another object's rows", y.of(0, 0), BatchOrder.BAD);
        checks.due("another object's seed", y.seed(0), 0);
    }

    private static void rowAnswersItsNumber() {
        BatchOrder x = new BatchOrder();
        checks.due("row of words", x.row(0, 0, 0), 0);
        checks.due("row of nothing", x.row(2, 7, 1000), 1);
        checks.due("third row", x.row(0, 7, 1), 2);
        checks.due("kind of words", x.of(0, 0), 0);
        checks.due("kind of nothing", x.of(1, 0), 2);
        checks.due("words at first", x.of(0, 3), 0);
    }

    private static void rowRefuses() {
        BatchOrder x = new BatchOrder();
        checks.due("row of a picture", x.row(1, 0, 0), BatchOrder.BAD);
        checks.due("kind -1", x.row(-1, 0, 0), BatchOrder.BAD);
        checks.due("kind 3", x.row(3, 0, 0), BatchOrder.BAD);
        checks.due("label -1", x.row(0, -1, 0), BatchOrder.BAD);
        checks.due("label 8", x.row(0, 8, 0), BatchOrder.BAD);
        checks.due("weight -1", x.row(0, 0, -1), BatchOrder.BAD);
        checks.due("weight 1001", x.row(0, 0, 1001), BatchOrder.BAD);
        for (int far : BELOW_AND_ABOVE_ALL) {
            checks.due("row far kind", x.row(far, 0, 0), BatchOrder.BAD);
            checks.due("row far label", x.row(0, far, 0), BatchOrder.BAD);
            checks.due("row far weight", x.row(0, 0, far), BatchOrder.BAD);
        }
        checks.due("a refusal changes nothing", x.row(0, 0, 0), 0);
    }

    private static void pictureAnswersItsNumber() {
        BatchOrder x = new BatchOrder();
        checks.due("smallest picture", x.picture(1, 1, 0, 0), 0);
        checks.due("largest picture", x.picture(40, 40, 7, 1000), 1);
        checks.due("a picture", x.picture(2, 5, 3, 4), 2);
        checks.due("its kind", x.of(2, 0), 1);
        checks.due("its label", x.of(2, 1), 3);
        checks.due("its weight", x.of(2, 2), 4);
        checks.due("its length", x.of(2, 3), 10);
        checks.due("its high", x.of(2, 4), 2);
        checks.due("its wide", x.of(2, 5), 5);
        checks.due("the largest one's length", x.of(1, 3), 1600);
        checks.due("noise that changes nothing", x.act(2, 2, 0, 1), 10);
        for (int k = 0; k < 10; k++) {
            checks.due("byte at first", x.out(k), 0);
        }
    }

    private static void pictureRefuses() {
        BatchOrder x = new BatchOrder();
        for (int side : new int[] {0, -1, 41, Integer.MIN_VALUE, Integer.MAX_VALUE, 65536}) {
            checks.due("high " + side, x.picture(side, 1, 0, 0), BatchOrder.BAD);
            checks.due("wide " + side, x.picture(1, side, 0, 0), BatchOrder.BAD);
            checks.due("both " + side, x.picture(side, side, 0, 0), BatchOrder.BAD);
        }
        checks.due("label -1", x.picture(1, 1, -1, 0), BatchOrder.BAD);
        checks.due("label 8", x.picture(1, 1, 8, 0), BatchOrder.BAD);
        checks.due("weight -1", x.picture(1, 1, 0, -1), BatchOrder.BAD);
        checks.due("weight 1001", x.picture(1, 1, 0, 1001), BatchOrder.BAD);
        checks.due("a refusal changes nothing", x.picture(1, 1, 0, 0), 0);
    }

    private static void sixtyRowsAreFull() {
        BatchOrder x = new BatchOrder();
        for (int r = 0; r < 60; r++) {
            int kind = r % 3;
            int got = kind == 1 ? x.picture(1, 2, 0, 0) : x.row(kind, 0, 0);
            checks.due("row " + r, got, r);
        }
        checks.due("row 60", x.row(0, 0, 0), BatchOrder.FULL);
        checks.due("nothing 60", x.row(2, 0, 0), BatchOrder.FULL);
        checks.due("picture 60", x.picture(1, 1, 0, 0), BatchOrder.FULL);
        checks.due("bad ahead of full", x.row(1, 0, 0), BatchOrder.BAD);
        checks.due("bad label ahead of full", x.row(0, 8, 0), BatchOrder.BAD);
        checks.due("bad picture ahead of full", x.picture(0, 1, 0, 0), BatchOrder.BAD);
        checks.due("the last row", x.of(59, 0), 2);
        checks.due("no row behind it", x.of(60, 0), BatchOrder.BAD);
    }

    private static void wordAnswersHowMany() {
        BatchOrder x = new BatchOrder();
        x.row(0, 0, 0);
        x.row(0, 0, 0);
        for (int k = 1; k <= 40; k++) {
            checks.due("word " + k, x.word(0, k * 1000003), k);
        }
        checks.due("word 41", x.word(0, 7), BatchOrder.FULL);
        checks.due("length", x.of(0, 3), 40);
        checks.due("the other row's length", x.of(1, 3), 0);
        checks.due("the other row's first word", x.word(1, Integer.MIN_VALUE), 1);
        x.act(3, 0, 0, 0);
        checks.due("first word", x.out(0), 1000003);
        checks.due("last word", x.out(39), 40000120);
        x.act(3, 1, 0, 0);
        checks.due("lowest word", x.out(0), Integer.MIN_VALUE);
    }

    private static void wordRefuses() {
        BatchOrder x = new BatchOrder();
        checks.due("without rows", x.word(0, 1), BatchOrder.BAD);
        x.picture(1, 1, 0, 0);
        x.row(2, 0, 0);
        x.row(0, 0, 0);
        checks.due("of a picture", x.word(0, 1), BatchOrder.BAD);
        checks.due("of nothing", x.word(1, 1), BatchOrder.BAD);
        checks.due("row -1", x.word(-1, 1), BatchOrder.BAD);
        checks.due("row 3", x.word(3, 1), BatchOrder.BAD);
        for (int far : BELOW_AND_ABOVE_ALL) {
            checks.due("far row", x.word(far, 1), BatchOrder.BAD);
        }
        checks.due("a refusal changes nothing", x.word(2, 1), 1);
    }

    private static int[] bytes(BatchOrder x, int row) {
        int[] bytes = new int[x.act(2, row, 0, 1)];
        for (int k = 0; k < bytes.length; k++) {
            bytes[k] = x.out(k);
        }
        return bytes;
    }

    private static void paintLaysEightBytes() {
        BatchOrder x = new BatchOrder();
        x.picture(2, 6, 0, 0);
        checks.due("paint", x.paint(0, 1, 0x80FF007F01020304L), 1);
        checks.due("highest first", bytes(x, 0), 0, 128, 255, 0, 127, 1, 2, 3, 4, 0, 0, 0);
        checks.due("paint again", x.paint(0, 0, 0L), 1);
        checks.due("zeros too", bytes(x, 0), 0, 0, 0, 0, 0, 0, 0, 0, 4, 0, 0, 0);
    }

    private static void paintLeavesOutWhatIsBeyond() {
        BatchOrder x = new BatchOrder();
        x.picture(2, 2, 0, 0);
        x.picture(1, 1, 0, 0);
        x.picture(2, 2, 0, 0);
        checks.due("paint", x.paint(0, 2, 0x0102030405060708L), 1);
        checks.due("two of eight", bytes(x, 0), 0, 0, 1, 2);
        checks.due("paint the last", x.paint(0, 3, -1L), 1);
        checks.due("one of eight", bytes(x, 0), 0, 0, 1, 255);
        checks.due("paint the single", x.paint(1, 0, 0x0900000000000000L), 1);
        checks.due("the single", bytes(x, 1), 9);
        checks.due("the row behind", bytes(x, 2), 0, 0, 0, 0);
    }

    private static void paintRefuses() {
        BatchOrder x = new BatchOrder();
        checks.due("without rows", x.paint(0, 0, 1L), BatchOrder.BAD);
        x.picture(2, 2, 0, 0);
        x.row(0, 0, 0);
        x.row(2, 0, 0);
        x.word(1, 5);
        checks.due("place -1", x.paint(0, -1, -1L), BatchOrder.BAD);
        checks.due("place 4", x.paint(0, 4, -1L), BatchOrder.BAD);
        checks.due("of words", x.paint(1, 0, -1L), BatchOrder.BAD);
        checks.due("of nothing", x.paint(2, 0, -1L), BatchOrder.BAD);
        checks.due("row -1", x.paint(-1, 0, -1L), BatchOrder.BAD);
        checks.due("row 3", x.paint(3, 0, -1L), BatchOrder.BAD);
        for (int far : BELOW_AND_ABOVE_ALL) {
            checks.due("far place", x.paint(0, far, -1L), BatchOrder.BAD);
            checks.due("far row", x.paint(far, 0, -1L), BatchOrder.BAD);
        }
        checks.due("a refusal changes nothing", bytes(x, 0), 0, 0, 0, 0);
    }

    private static void markChangesLabelAndWeight() {
        BatchOrder x = new BatchOrder();
        x.row(0, 1, 2);
        x.picture(1, 1, 3, 4);
        checks.due("mark", x.mark(1, 7, 1000), 1);
        checks.due("label", x.of(1, 1), 7);
        checks.due("weight", x.of(1, 2), 1000);
        checks.due("the other's label", x.of(0, 1), 1);
        checks.due("the other's weight", x.of(0, 2), 2);
        checks.due("mark to 0", x.mark(0, 0, 0), 1);
        checks.due("label 0", x.of(0, 1), 0);
        checks.due("weight 0", x.of(0, 2), 0);
    }

    private static void markRefuses() {
        BatchOrder x = new BatchOrder();
        checks.due("without rows", x.mark(0, 0, 0), BatchOrder.BAD);
        x.row(2, 1, 2);
        checks.due("label -1", x.mark(0, -1, 5), BatchOrder.BAD);
        checks.due("label 8", x.mark(0, 8, 5), BatchOrder.BAD);
        checks.due("weight -1", x.mark(0, 5, -1), BatchOrder.BAD);
        checks.due("weight 1001", x.mark(0, 5, 1001), BatchOrder.BAD);
        checks.due("row 1", x.mark(1, 0, 0), BatchOrder.BAD);
        checks.due("row -1", x.mark(-1, 0, 0), BatchOrder.BAD);
        checks.due("label as it was", x.of(0, 1), 1);
        checks.due("weight as it was", x.of(0, 2), 2);
    }

    private static void ofTellsAll() {
        BatchOrder x = new BatchOrder();
        x.row(0, 6, 11);
        x.word(0, 1);
        x.word(0, 1);
        x.picture(3, 7, 5, 12);
        x.row(2, 4, 13);
        int[][] want = {{0, 6, 11, 2, 0, 0}, {1, 5, 12, 21, 3, 7}, {2, 4, 13, 0, 0, 0}};
        for (int r = 0; r < 3; r++) {
            for (int what = 0; what < 6; what++) {
                checks.due("of(" + r + ", " + what + ")", x.of(r, what), want[r][what]);
            }
        }
    }

    private static void ofRefuses() {
        BatchOrder x = new BatchOrder();
        x.row(0, 6, 11);
        checks.due("what -1", x.of(0, -1), BatchOrder.BAD);
        checks.due("what 6", x.of(0, 6), BatchOrder.BAD);
        checks.due("row 1", x.of(1, 0), BatchOrder.BAD);
        checks.due("row -1", x.of(-1, 0), BatchOrder.BAD);
        for (int far : BELOW_AND_ABOVE_ALL) {
            checks.due("far row", x.of(far, 0), BatchOrder.BAD);
            checks.due("far what", x.of(0, far), BatchOrder.BAD);
        }
    }

    private static void seedAnswersWhatItWas() {
        BatchOrder x = new BatchOrder();
        checks.due("at first", x.seed(Long.MIN_VALUE), 0);
        checks.due("then", x.seed(-1L), Long.MIN_VALUE);
        checks.due("then", x.seed(1L << 40), -1L);
        checks.due("then", x.seed(0), 1L << 40);
    }

    private static void setAnswersWhatItWas() {
        int[][] turns = {{0, 20, 4}, {0, 0, 20}, {0, 1, 0}, {1, 60, 8}, {1, 1, 60}, {1, 2, 1},
            {2, 60, 5}, {2, 1, 60}, {2, 2, 1}, {3, 1, 0}, {3, 0, 1}, {3, 0, 0}};
        BatchOrder x = new BatchOrder();
        for (int[] turn : turns) {
            checks.due("set(" + turn[0] + ", " + turn[1] + ")", x.set(turn[0], turn[1]), turn[2]);
        }
    }

    private static void setRefuses() {
        int[][] wrong = {{0, -1}, {0, 21}, {1, 0}, {1, 61}, {2, 0}, {2, 61}, {3, -1}, {3, 2}, {-1, 1}, {4, 1},
            {Integer.MIN_VALUE, 1}, {Integer.MAX_VALUE, 1}, {0, Integer.MIN_VALUE}, {1, Integer.MAX_VALUE}};
        BatchOrder x = new BatchOrder();
        for (int[] w : wrong) {
            checks.due("set(" + w[0] + ", " + w[1] + ")", x.set(w[0], w[1]), BatchOrder.BAD);
        }
        checks.due("SIZE as it was", x.set(0, 1), 4);
        checks.due("GROUP as it was", x.set(1, 1), 8);
        checks.due("BUFFER as it was", x.set(2, 1), 5);
        checks.due("DROPS as it was", x.set(3, 1), 0);
    }
}
