/** Objects that the tests begin with, and all of what they hold; each use stays far below 512 calls. */
final class Sample {
    static final int NULL = -11;
    static final int CAST = -12;
    static final int INDEX = -13;
    static final int SIZE = -15;
    static final int ZERO = -16;

    private Sample() {
    }

    /** ROWS that are NOTHING, of LABEL 0 and WEIGHT 1. */
    static BatchOrder rows(int many) {
        BatchOrder x = new BatchOrder();
        for (int r = 0; r < many; r++) {
            x.row(2, 0, 1);
        }
        return x;
    }

    static BatchOrder ofLengths(int... lengths) {
        BatchOrder x = new BatchOrder();
        for (int r = 0; r < lengths.length; r++) {
            x.row(0, 0, 1);
            for (int k = 0; k < lengths[r]; k++) {
                x.word(r, k);
            }
        }
        return x;
    }

    static BatchOrder ofWeights(int... weights) {
        BatchOrder x = new BatchOrder();
        for (int weight : weights) {
            x.row(2, 0, weight);
        }
        return x;
    }

    static BatchOrder ofLabels(int... labels) {
        BatchOrder x = new BatchOrder();
        for (int label : labels) {
            x.row(2, label, 1);
        }
        return x;
    }

    static BatchOrder ofWords(int... words) {
        BatchOrder x = new BatchOrder();
        x.row(0, 0, 1);
        for (int v : words) {
            x.word(0, v);
        }
        return x;
    }

    /** A single PICTURE, its bytes 0, 1, 2 and so on. */
    static BatchOrder ofPicture(int high, int wide) {
        BatchOrder x = new BatchOrder();
        x.picture(high, wide, 0, 1);
        for (int k = 0; k < high * wide; k += 8) {
            x.paint(0, k, 0x0001020304050607L + k * 0x0101010101010101L);
        }
        return x;
    }

    /** The whole ORDER, by BATCHES of one. */
    static int[] order(BatchOrder x, int way, int round) {
        int size = x.set(0, 1);
        int[] order = new int[x.count()];
        for (int k = 0; k < order.length; k++) {
            order[k] = x.batch(way, round, k, 0);
        }
        x.set(0, size);
        return order;
    }

    static int[] next(BatchOrder x, int many) {
        int[] got = new int[many];
        for (int k = 0; k < many; k++) {
            got[k] = x.next();
        }
        return got;
    }

    static int[] atHand(BatchOrder x) {
        return new int[] {x.at(0), x.at(1), x.at(2)};
    }

    /** The items of OUT, which is not NOTHING. */
    static int[] out(BatchOrder x) {
        int[] items = new int[x.out(-1)];
        for (int k = 0; k < items.length; k++) {
            items[k] = x.out(k);
        }
        return items;
    }

    /** A PICTURE's bytes, by a NOISE that changes none. */
    static int[] bytes(BatchOrder x, int row) {
        x.act(2, row, 0, 1);
        return out(x);
    }

    /** A ROW's WORDS, by a LEAVE that takes none. */
    static int[] words(BatchOrder x, int row) {
        x.act(3, row, 0, 0);
        return out(x);
    }

    static boolean countThrows(BatchOrder x) {
        try {
            x.count();
            return false;
        } catch (ArithmeticException e) {
            return true;
        }
    }
}
