import java.util.Arrays;

/** The whole class once more, as plainly as can be, over Reference. */
final class Model {
    private static final int[] MOST = {16, 24, 32, 64};

    private final byte[][] rows = {new byte[0], new byte[0], new byte[0], new byte[0]};
    private byte[] result = new byte[0];

    private static void arguments(boolean good) {
        if (!good) {
            throw new IllegalArgumentException();
        }
    }

    private static void state(boolean good) {
        if (!good) {
            throw new IllegalStateException();
        }
    }

    private static void index(boolean good) {
        if (!good) {
            throw new IndexOutOfBoundsException();
        }
    }

    private static boolean isRow(int row) {
        return row >= 0 && row <= 3;
    }

    int type(int row, long bits, int n) {
        arguments(isRow(row) && n >= 1 && n <= 8);
        state(rows[row].length + n <= MOST[row]);
        byte[] typed = new byte[n];
        for (int k = 0; k < n; k++) {
            typed[n - 1 - k] = (byte) (bits >> 8 * k);
        }
        rows[row] = Reference.joined(rows[row], typed);
        return rows[row].length;
    }

    int clear(int row) {
        arguments(isRow(row));
        int had = rows[row].length;
        rows[row] = new byte[0];
        return had;
    }

    String poke(int row, int i, int v) {
        arguments(isRow(row) && v >= 0 && v <= 255);
        index(i >= 0 && i < rows[row].length);
        rows[row][i] = (byte) v;
        return "done";
    }

    int take(int row) {
        arguments(isRow(row));
        state(result.length <= MOST[row]);
        rows[row] = result.clone();
        return result.length;
    }

    String block() {
        state(rows[0].length == 16 && rows[3].length == 16);
        result = Reference.encipher(rows[0], rows[3]);
        return "done";
    }

    String hash(int way) {
        arguments(way == 0 || way == 1);
        state(rows[0].length == 16);
        result = Reference.hash(way, rows[0], Reference.padded(rows[3]));
        return "done";
    }

    private boolean keyAndNonceSuit(int way) {
        return rows[0].length == 16 && (way == 0 ? rows[1].length >= 1 : rows[1].length == 12);
    }

    int seal(int way) {
        arguments(way == 0 || way == 1);
        state(keyAndNonceSuit(way) && rows[3].length <= 48);
        result = Reference.sealed(way, rows[0], rows[1], rows[2], rows[3]);
        return result.length;
    }

    int open(int way) {
        arguments(way == 0 || way == 1);
        state(keyAndNonceSuit(way) && rows[3].length >= 16);
        byte[] text = Reference.opened(way, rows[0], rows[1], rows[2], rows[3]);
        if (text == null) {
            throw new UnsupportedOperationException();
        }
        result = text;
        return result.length;
    }

    int size() {
        return result.length;
    }

    int at(int i) {
        index(i >= 0 && i < result.length);
        return result[i] & 255;
    }

    byte[] result() {
        return Arrays.copyOf(result, result.length);
    }
}
