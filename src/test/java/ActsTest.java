/** Promises 17 to 19: act, out, like. */
public final class ActsTest {
    private static final int NULL = -11;
    private static final int CAST = -12;
    private static final int INDEX = -13;
    private static final int SIZE = -15;
    private static final int ZERO = -16;
    private static final int[] SOME_WORDS = {100, -1, Integer.MAX_VALUE, Integer.MIN_VALUE, 0, 55, 66};
    private static final Checks checks = new Checks();

    public static void main(String[] args) {
        turnGoesToTheRight();
        cropTakesASquare();
        noiseChangesBytes();
        leaveTakesWordsOut();
        swapChangesPlaces();
        actRefuses();
        nothingAndOtherKindsFail();
        cropFails();
        swapFails();
        noiseFails();
        failuresChangeNothing();
        actsLeaveTheRowAlone();
        outTellsItemsAndSides();
        outOfNothingFails();
        likeComparesAll();
        likeRefuses();
        checks.end();
    }

    /** ROW 0 a picture of 2 lines of 3, ROW 1 seven words, ROW 2 nothing. */
    private static BatchOrder three() {
        BatchOrder x = new BatchOrder();
        x.picture(2, 3, 0, 0);
        x.paint(0, 0, 0x0102030405060000L);
        x.row(0, 0, 0);
        for (int v : SOME_WORDS) {
            x.word(1, v);
        }
        x.row(2, 0, 0);
        return x;
    }

    private static int[] items(BatchOrder x) {
        int[] items = new int[x.out(-1)];
        for (int k = 0; k < items.length; k++) {
            items[k] = x.out(k);
        }
        return items;
    }

    private static void dueOut(String what, BatchOrder x, int high, int wide, int... want) {
        checks.due(what + ": sides", new int[] {x.out(-2), x.out(-3)}, high, wide);
        checks.due(what, items(x), want);
    }

    private static void turnGoesToTheRight() {
        BatchOrder x = three();
        checks.due("act", x.act(0, 0, 2, 0), 6);
        dueOut("no quarter", x, 2, 3, 1, 2, 3, 4, 5, 6);
        x.act(0, 0, 0, Integer.MIN_VALUE);
        dueOut("a quarter", x, 3, 2, 4, 1, 5, 2, 6, 3);
        x.act(0, 0, 1, Integer.MAX_VALUE);
        dueOut("two quarters", x, 2, 3, 6, 5, 4, 3, 2, 1);
        x.act(0, 0, 6, 0);
        dueOut("three quarters", x, 3, 2, 3, 6, 2, 5, 1, 4);
    }

    private static void cropTakesASquare() {
        BatchOrder x = new BatchOrder();
        x.picture(3, 4, 0, 0);
        x.paint(0, 0, 0x0A0B0C0D0E0F1011L);
        x.paint(0, 8, 0x1213141500000000L);
        x.seed(9);
        checks.due("act", x.act(1, 0, 0, 2), 4);
        dueOut("ROUND 0", x, 2, 2, 10, 11, 14, 15);
        x.act(1, 0, 1, 2);
        dueOut("ROUND 1", x, 2, 2, 14, 15, 18, 19);
        x.act(1, 0, 2, 2);
        dueOut("ROUND 2", x, 2, 2, 12, 13, 16, 17);
        x.act(1, 0, 3, 2);
        dueOut("ROUND 3", x, 2, 2, 16, 17, 20, 21);
        checks.due("as many as HIGH", x.act(1, 0, 0, 3), 9);
        checks.due("none", x.act(1, 0, 0, 0), 0);
        dueOut("none", x, 0, 0);
        checks.due("no byte of none", x.out(0), INDEX);
    }

    private static void noiseChangesBytes() {
        BatchOrder x = three();
        checks.due("act", x.act(2, 0, 8, 1), 6);
        dueOut("NOISE 1", x, 2, 3, 1, 2, 3, 4, 5, 6);
        x.act(2, 0, 8, 2);
        dueOut("NOISE 2", x, 2, 3, 0, 3, 2, 4, 4, 7);
        x.act(2, 0, 8, 100);
        dueOut("NOISE 100", x, 2, 3, 28, 27, 8, 66, 38, 31);
        x.act(2, 0, 8, 256);
        dueOut("NOISE 256", x, 2, 3, 136, 111, 192, 246, 230, 231);
    }

    private static void leaveTakesWordsOut() {
        BatchOrder x = three();
        checks.due("act", x.act(3, 1, 3, 0), 7);
        dueOut("LEAVE 0", x, 0, 0, SOME_WORDS);
        checks.due("act", x.act(3, 1, 3, 50), 2);
        dueOut("LEAVE 50", x, 0, 0, -1, 66);
        checks.due("act", x.act(3, 1, 3, 100), 0);
        dueOut("LEAVE 100", x, 0, 0);
        x.row(0, 0, 0);
        checks.due("of no words", x.act(3, 3, 0, 100), 0);
    }

    private static void swapChangesPlaces() {
        BatchOrder x = three();
        checks.due("act", x.act(4, 1, 3, 0), 7);
        dueOut("SWAP 0", x, 0, 0, SOME_WORDS);
        x.act(4, 1, 3, 1);
        dueOut("SWAP 1", x, 0, 0, -1, 100, Integer.MAX_VALUE, Integer.MIN_VALUE, 0, 55, 66);
        x.act(4, 1, 3, 5);
        dueOut("SWAP 5", x, 0, 0, -1, 100, Integer.MAX_VALUE, Integer.MIN_VALUE, 55, 66, 0);
        x.act(4, 1, 3, 50);
        dueOut("SWAP 50", x, 0, 0, 100, 66, -1, Integer.MIN_VALUE, 55, Integer.MAX_VALUE, 0);
    }

    private static void actRefuses() {
        BatchOrder x = three();
        int[][] wrong = {{-1, 0, 0, 0}, {5, 0, 0, 0}, {0, -1, 0, 0}, {0, 3, 0, 0}, {0, 0, -1, 0}, {0, 0, 1001, 0},
            {1, 0, 0, 41}, {2, 0, 0, -1}, {2, 0, 0, 257}, {3, 1, 0, -1}, {3, 1, 0, 101}, {4, 1, 0, -1}, {4, 1, 0, 51},
            {Integer.MAX_VALUE, 0, 0, 0}, {0, Integer.MIN_VALUE, 0, 0}, {0, 0, Integer.MAX_VALUE, 0},
            {1, 0, 0, Integer.MAX_VALUE}, {1, 2, 0, 41}, {2, 1, 0, 257}, {3, 0, 0, 101}, {4, 2, 0, 51},
            {0, 2, 1001, 0}};
        for (int[] w : wrong) {
            checks.due("act of " + java.util.Arrays.toString(w), x.act(w[0], w[1], w[2], w[3]), BatchOrder.BAD);
        }
        checks.due("OUT as it was", x.out(-1), NULL);
        checks.due("without rows", new BatchOrder().act(0, 0, 0, 0), BatchOrder.BAD);
    }

    private static void nothingAndOtherKindsFail() {
        BatchOrder x = three();
        for (int act = 0; act < 5; act++) {
            checks.due("ACT " + act + " on NOTHING", x.act(act, 2, 0, 1), NULL);
            int other = act < 3 ? 1 : 0;
            checks.due("ACT " + act + " on the other KIND", x.act(act, other, 0, 1), CAST);
        }
        checks.due("CROP below 0 of NOTHING", x.act(1, 2, 0, -1), NULL);
        checks.due("CROP below 0 of words", x.act(1, 1, 0, -1), CAST);
        checks.due("CROP too large of words", x.act(1, 1, 0, 40), CAST);
        checks.due("NOISE 0 of words", x.act(2, 1, 0, 0), CAST);
    }

    private static void cropFails() {
        BatchOrder x = three();
        x.picture(3, 2, 0, 0);
        checks.due("above HIGH", x.act(1, 0, 0, 3), INDEX);
        checks.due("above WIDE", x.act(1, 3, 0, 3), INDEX);
        checks.due("above both", x.act(1, 0, 0, 40), INDEX);
        checks.due("below 0", x.act(1, 0, 0, -1), SIZE);
        checks.due("far below 0", x.act(1, 0, 0, Integer.MIN_VALUE), SIZE);
    }

    private static void swapFails() {
        BatchOrder x = new BatchOrder();
        x.row(0, 0, 0);
        checks.due("LENGTH 0, n 0", x.act(4, 0, 0, 0), 0);
        checks.due("LENGTH 0, n 1", x.act(4, 0, 0, 1), INDEX);
        x.word(0, 8);
        checks.due("LENGTH 1, n 0", x.act(4, 0, 0, 0), 1);
        checks.due("LENGTH 1, n 50", x.act(4, 0, 0, 50), ZERO);
        x.word(0, 9);
        checks.due("LENGTH 2, n 1", x.act(4, 0, 0, 1), 2);
        dueOut("LENGTH 2, n 1", x, 0, 0, 9, 8);
    }

    private static void noiseFails() {
        BatchOrder x = three();
        checks.due("NOISE 0", x.act(2, 0, 0, 0), ZERO);
    }

    private static void failuresChangeNothing() {
        BatchOrder x = three();
        x.act(3, 1, 0, 0);
        x.act(0, 2, 0, 0);
        x.act(0, 1, 0, 0);
        x.act(1, 0, 0, 3);
        x.act(1, 0, 0, -1);
        x.act(2, 0, 0, 0);
        x.act(9, 0, 0, 0);
        dueOut("OUT as it was", x, 0, 0, SOME_WORDS);
    }

    private static void actsLeaveTheRowAlone() {
        BatchOrder x = three();
        x.act(2, 0, 0, 256);
        x.act(0, 0, 0, 0);
        x.act(2, 0, 0, 1);
        dueOut("the picture as it was", x, 2, 3, 1, 2, 3, 4, 5, 6);
        x.act(4, 1, 0, 50);
        x.act(3, 1, 0, 0);
        dueOut("the words as they were", x, 0, 0, SOME_WORDS);
        x.word(1, 1);
        checks.due("a word more of the row is none of OUT", x.out(-1), 7);
        checks.due("the row has it", x.of(1, 3), 8);
    }

    private static void outTellsItemsAndSides() {
        BatchOrder x = three();
        x.act(2, 0, 0, 1);
        checks.due("LENGTH", x.out(-1), 6);
        checks.due("HIGH", x.out(-2), 2);
        checks.due("WIDE", x.out(-3), 3);
        checks.due("first", x.out(0), 1);
        checks.due("last", x.out(5), 6);
        for (int i : new int[] {6, -4, 1599, 1600, Integer.MIN_VALUE, Integer.MAX_VALUE}) {
            checks.due("out(" + i + ")", x.out(i), INDEX);
        }
        x.act(3, 1, 0, 0);
        checks.due("HIGH of words", x.out(-2), 0);
        checks.due("WIDE of words", x.out(-3), 0);
        checks.due("behind the last word", x.out(7), INDEX);
        BatchOrder large = new BatchOrder();
        large.picture(40, 40, 0, 0);
        large.paint(0, 1599, -1L);
        checks.due("the largest", large.act(2, 0, 0, 1), 1600);
        checks.due("its last byte", large.out(1599), 255);
        checks.due("behind it", large.out(1600), INDEX);
    }

    private static void outOfNothingFails() {
        BatchOrder x = three();
        for (int i : new int[] {0, 1, -1, -2, -3, -4, Integer.MIN_VALUE, Integer.MAX_VALUE}) {
            checks.due("out(" + i + ") of NOTHING", x.out(i), NULL);
        }
    }

    private static void likeComparesAll() {
        BatchOrder x = three();
        checks.due("NOTHING and NOTHING", x.like(2), 1);
        checks.due("NOTHING and a picture", x.like(0), 0);
        checks.due("NOTHING and words", x.like(1), 0);
        x.row(0, 0, 0);
        checks.due("NOTHING and no words", x.like(3), 0);
        x.act(3, 3, 0, 0);
        checks.due("no words and no words", x.like(3), 1);
        checks.due("no words and NOTHING", x.like(2), 0);
        x.act(3, 1, 0, 0);
        checks.due("the same words", x.like(1), 1);
        x.act(4, 1, 3, 1);
        checks.due("other words", x.like(1), 0);
        x.act(3, 1, 3, 50);
        checks.due("fewer words", x.like(1), 0);
        x.act(2, 0, 0, 1);
        checks.due("the same picture, of another label", x.like(0), 1);
        x.picture(3, 2, 0, 0);
        x.paint(4, 0, 0x0102030405060000L);
        checks.due("the same bytes, other sides", x.like(4), 0);
        x.paint(0, 5, 0L);
        checks.due("the row's last byte is another one now", x.like(0), 0);
        aWordMoreIsADifference();
        wordsAreNoPicture();
    }

    private static void aWordMoreIsADifference() {
        BatchOrder x = new BatchOrder();
        x.row(0, 0, 0);
        x.row(0, 0, 0);
        x.word(0, 5);
        x.act(3, 0, 0, 0);
        x.word(0, 0);
        checks.due("the row has a word 0 more", x.like(0), 0);
        x.act(3, 0, 0, 0);
        x.word(1, 5);
        checks.due("OUT has a word 0 more", x.like(1), 0);
        x.word(1, 0);
        checks.due("another row with the same words", x.like(1), 1);
        x.act(3, 1, 0, 100);
        x.row(0, 0, 0);
        checks.due("no words and another row without words", x.like(2), 1);
    }

    private static void wordsAreNoPicture() {
        BatchOrder x = new BatchOrder();
        x.picture(1, 1, 0, 0);
        x.row(0, 0, 0);
        x.word(1, 0);
        x.act(3, 1, 0, 0);
        checks.due("a word 0 and a byte 0", x.like(0), 0);
        x.act(1, 0, 0, 0);
        x.row(0, 0, 0);
        x.row(2, 0, 0);
        checks.due("an empty picture and no words", x.like(2), 0);
        checks.due("an empty picture and NOTHING", x.like(3), 0);
    }

    private static void likeRefuses() {
        BatchOrder x = three();
        for (int row : new int[] {-1, 3, Integer.MIN_VALUE, Integer.MAX_VALUE}) {
            checks.due("like(" + row + ")", x.like(row), BatchOrder.BAD);
        }
        checks.due("without rows", new BatchOrder().like(0), BatchOrder.BAD);
    }
}
