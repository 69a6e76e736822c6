/** Promises 1 to 5, 10 and 11: a new object, type, clear, poke, take, size, at. */
final class RowsTest {
    private static final int[] MOST = {16, 24, 32, 64};
    private static final int[] NO_ROWS = {-1, 4, Integer.MIN_VALUE, Integer.MAX_VALUE};

    private RowsTest() {
    }

    public static void main(String[] args) {
        newObjectIsEmpty();
        typeAnswersLengthsUpToTheMost();
        typeTakesTheLowestBytesHighestFirst();
        typeRefuses();
        clearAnswersWhatWasThere();
        pokeChangesOneByte();
        pokeRefuses();
        takeCopiesTheResult();
        takeRefuses();
        atRefuses();
        objectsAreApart();
        Check.end();
    }

    private static void newObjectIsEmpty() {
        TwoSeals seals = new TwoSeals();
        Check.same("size of a new object", seals.size(), 0);
        Check.throwing("at(0) of a new object", IndexOutOfBoundsException.class, () -> seals.at(0));
        for (int row = 0; row < 4; row++) {
            int r = row;
            Check.throwing("poke of a new object", IndexOutOfBoundsException.class, () -> seals.poke(r, 0, 0));
            Check.same("clear of a new object", seals.clear(row), 0);
            Check.same("take of an empty result", seals.take(row), 0);
        }
    }

    private static void typeAnswersLengthsUpToTheMost() {
        for (int row = 0; row < 4; row++) {
            for (int n = 1; n <= 8; n++) {
                fillUp(row, n);
            }
        }
    }

    private static void fillUp(int row, int n) {
        TwoSeals seals = new TwoSeals();
        int length = 0;
        while (length + n <= MOST[row]) {
            length += n;
            Check.same("type of " + n + " into row " + row, seals.type(row, -1L, n), length);
        }
        int rest = MOST[row] - length;
        Check.throwing("type beyond row " + row, IllegalStateException.class, () -> seals.type(row, 0L, n));
        if (rest > 0) {
            Check.throwing("type beyond row " + row, IllegalStateException.class, () -> seals.type(row, 0L, rest + 1));
            Check.same("type of the rest", seals.type(row, 0L, rest), MOST[row]);
        }
        Check.same("length of full row " + row, seals.clear(row), MOST[row]);
    }

    // The text is seen through way 0: with its own cipher text added it is there again.
    private static String textOf(TwoSeals seals) {
        seals.clear(Check.KEY);
        seals.clear(Check.NONCE);
        seals.clear(Check.ASIDE);
        Check.fill(seals, Check.KEY, new byte[16]);
        Check.fill(seals, Check.NONCE, new byte[12]);
        seals.seal(0);
        seals.take(Check.TEXT);
        seals.open(0);
        seals.take(Check.TEXT);
        return Check.hexResult(seals);
    }

    private static void typeTakesTheLowestBytesHighestFirst() {
        String whole = "8182838485868788";
        for (int n = 1; n <= 8; n++) {
            TwoSeals seals = new TwoSeals();
            seals.type(Check.TEXT, 0x8182838485868788L, n);
            Check.same("the typed " + n, textOf(seals), whole.substring(16 - 2 * n));
            seals.type(Check.TEXT, 0xFFFFFFFFFFFFFF00L, 1);
            Check.same("typed behind " + n, textOf(seals), whole.substring(16 - 2 * n) + "00");
        }
    }

    private static void typeRefuses() {
        TwoSeals seals = new TwoSeals();
        for (int row : NO_ROWS) {
            Check.throwing("type into row " + row, IllegalArgumentException.class, () -> seals.type(row, 0L, 1));
        }
        for (int n : new int[] {0, 9, -1, Integer.MAX_VALUE, Integer.MIN_VALUE}) {
            Check.throwing("type of " + n, IllegalArgumentException.class, () -> seals.type(0, 0L, n));
        }
        Check.fill(seals, Check.KEY, new byte[16]);
        Check.throwing("type of 9 into a full row", IllegalArgumentException.class, () -> seals.type(0, 0L, 9));
        Check.throwing("type of 1 into a full row", IllegalStateException.class, () -> seals.type(0, 0L, 1));
        Check.same("the full row", seals.clear(0), 16);
    }

    private static void clearAnswersWhatWasThere() {
        TwoSeals seals = new TwoSeals();
        for (int row = 0; row < 4; row++) {
            seals.type(row, 1L, row + 1);
        }
        for (int row = 0; row < 4; row++) {
            Check.same("clear of row " + row, seals.clear(row), row + 1);
            Check.same("clear again", seals.clear(row), 0);
            Check.same("type after clear", seals.type(row, 1L, 2), 2);
        }
        for (int row : NO_ROWS) {
            Check.throwing("clear of row " + row, IllegalArgumentException.class, () -> seals.clear(row));
        }
        clearKeepsTheResult();
    }

    private static void clearKeepsTheResult() {
        TwoSeals seals = Check.filled(new byte[16], new byte[12], new byte[0], new byte[16]);
        seals.block();
        String before = Check.hexResult(seals);
        for (int row = 0; row < 4; row++) {
            seals.clear(row);
        }
        Check.same("the result after clear", Check.hexResult(seals), before);
    }

    private static void pokeChangesOneByte() {
        TwoSeals seals = new TwoSeals();
        Check.fill(seals, Check.TEXT, Check.bytes("000102030405060708090a"));
        seals.poke(Check.TEXT, 0, 255);
        seals.poke(Check.TEXT, 10, 0);
        seals.poke(Check.TEXT, 4, 128);
        Check.same("poked text", textOf(seals), "ff01020380050607080900");
        for (int row = 0; row < 3; row++) {
            pokeChangesTheSeal(row);
        }
    }

    private static void pokeChangesTheSeal(int row) {
        byte[][] rows = {Check.bytes("00112233445566778899aabbccddeeff"), new byte[24], new byte[32], new byte[48]};
        TwoSeals seals = Check.filled(rows[0], rows[1], rows[2], rows[3]);
        int last = rows[row].length - 1;
        seals.poke(row, last, 77);
        rows[row][last] = 77;
        seals.seal(0);
        Check.same("seal with row " + row + " poked", Check.hexResult(seals),
                Check.hex(Reference.sealed(0, rows[0], rows[1], rows[2], rows[3])));
    }

    private static void pokeRefuses() {
        TwoSeals seals = new TwoSeals();
        Check.fill(seals, Check.TEXT, Check.bytes("01020304"));
        for (int row : NO_ROWS) {
            Check.throwing("poke into row " + row, IllegalArgumentException.class, () -> seals.poke(row, 0, 0));
            Check.throwing("poke into row " + row, IllegalArgumentException.class, () -> seals.poke(row, -1, 0));
        }
        for (int v : new int[] {-1, 256, Integer.MIN_VALUE, Integer.MAX_VALUE}) {
            Check.throwing("poke of " + v, IllegalArgumentException.class, () -> seals.poke(3, 0, v));
            Check.throwing("poke of " + v + " nowhere", IllegalArgumentException.class, () -> seals.poke(3, 4, v));
        }
        for (int i : new int[] {-1, 4, 63, 64, Integer.MIN_VALUE, Integer.MAX_VALUE}) {
            Check.throwing("poke at " + i, IndexOutOfBoundsException.class, () -> seals.poke(3, i, 9));
        }
        Check.same("text after refused pokes", textOf(seals), "01020304");
    }

    private static void takeCopiesTheResult() {
        byte[] key = Check.bytes("000102030405060708090a0b0c0d0e0f");
        byte[] text = Check.bytes("00112233445566778899aabbccddeeff");
        for (int row = 0; row < 4; row++) {
            TwoSeals seals = Check.filled(key, new byte[12], new byte[20], text);
            seals.block();
            String before = Check.hexResult(seals);
            Check.same("take into row " + row, seals.take(row), 16);
            Check.same("the result after take", Check.hexResult(seals), before);
            seals.poke(row, 0, 0);
            Check.same("the result after take and poke", Check.hexResult(seals), before);
            Check.same("the row after take", seals.clear(row), 16);
        }
        TwoSeals seals = Check.filled(key, new byte[12], new byte[0], text);
        seals.block();
        seals.take(Check.KEY);
        seals.block();
        Check.same("block with a taken key", Check.hexResult(seals),
                Check.hex(Reference.encipher(Reference.encipher(key, text), text)));
    }

    private static void takeRefuses() {
        TwoSeals seals = new TwoSeals();
        for (int row : NO_ROWS) {
            Check.throwing("take into row " + row, IllegalArgumentException.class, () -> seals.take(row));
        }
        for (int size = 16; size <= 64; size++) {
            takeWhereItFits(size);
        }
    }

    private static void takeWhereItFits(int size) {
        TwoSeals seals = Check.filled(new byte[16], new byte[12], new byte[5], new byte[size - 16]);
        int[] had = {16, 12, 5, size - 16};
        seals.seal(0);
        for (int row = 0; row < 4; row++) {
            takeIfItFits(seals, row, size, had[row]);
        }
    }

    private static void takeIfItFits(TwoSeals seals, int row, int size, int had) {
        if (size <= MOST[row]) {
            Check.same("take of " + size + " into row " + row, seals.take(row), size);
            Check.same("row " + row, seals.clear(row), size);
        } else {
            Check.throwing("take of " + size + " into row " + row, IllegalStateException.class, () -> seals.take(row));
            Check.same("row " + row + " after a refused take", seals.clear(row), had);
        }
    }

    private static void atRefuses() {
        TwoSeals seals = Check.filled(new byte[16], new byte[12], new byte[0], new byte[48]);
        seals.seal(0);
        Check.same("size", seals.size(), 64);
        for (int i : new int[] {-1, 64, Integer.MIN_VALUE, Integer.MAX_VALUE}) {
            Check.throwing("at(" + i + ")", IndexOutOfBoundsException.class, () -> seals.at(i));
        }
        Check.fill(seals, Check.TEXT, new byte[16]);
        seals.block();
        Check.same("size of a shorter result", seals.size(), 16);
        Check.same("at(15)", seals.at(15), 46);
        Check.same("a byte over 127", seals.at(1), 0xe9);
        Check.throwing("at(16)", IndexOutOfBoundsException.class, () -> seals.at(16));
    }

    private static void objectsAreApart() {
        TwoSeals one = Check.filled(new byte[16], new byte[12], new byte[0], new byte[16]);
        TwoSeals other = new TwoSeals();
        one.block();
        Check.same("size of the other object", other.size(), 0);
        Check.same("key of the other object", other.clear(Check.KEY), 0);
    }
}
