import java.util.Arrays;

/** Promises 1 to 5, 10 and 11 at their edges, a test for each sentence of the document that names one. */
final class RowEdgesTest {
    private static final int[] NO_ROWS = {-1, 4, 5, 256, Integer.MIN_VALUE, Integer.MAX_VALUE};
    private static final int[] NO_BYTES = {-1, 256, 257, -256, Integer.MIN_VALUE, Integer.MAX_VALUE};
    private static final byte[] NOTHING = new byte[0];
    private static final Held SOME = Held.of(5, 6, 7, 8, 20);
    private static final Held FULL = Held.of(16, 24, 32, 64, 64);
    private static final Held EMPTY = Held.of(0, 0, 0, 0, 0);

    private RowEdgesTest() {
    }

    public static void main(String[] args) {
        promiseOne();
        promiseTwo();
        promiseThree();
        promiseFour();
        promiseFive();
        promiseTen();
        promiseEleven();
        Check.end();
    }

    private static void promiseOne() {
        Check.sentence("1: empty rows", RowEdgesTest::newRowsAreEmpty);
        Check.sentence("1: an empty result", RowEdgesTest::newResultIsEmpty);
    }

    private static void newRowsAreEmpty() {
        EMPTY.isIn("new", new TwoSeals());
        for (int row = 0; row < 4; row++) {
            Check.same("clear of a new row " + row, new TwoSeals().clear(row), 0);
            EMPTY.refuses(Ask.poke(row, 0, 1), IndexOutOfBoundsException.class);
        }
    }

    private static void newResultIsEmpty() {
        Check.same("size when new", new TwoSeals().size(), 0);
        EMPTY.refuses(Ask.at(0), IndexOutOfBoundsException.class);
        for (int row = 0; row < 4; row++) {
            EMPTY.answers(Ask.take(row), 0, EMPTY);
        }
    }

    private static void promiseTwo() {
        Check.sentence("2: the lowest n bytes, the highest of them first", RowEdgesTest::typesTheLowestBytes);
        Check.sentence("2: come behind a row", RowEdgesTest::typesBehind);
        Check.sentence("2: row is not 0 .. 3", () -> refusesRowsInType(SOME));
        Check.sentence("2: n not 1 .. 8", RowEdgesTest::refusesNumbersInType);
        Check.sentence("2, Terms: the key has at most 16 bytes", () -> typesUpToTheMost(Check.KEY));
        Check.sentence("2, Terms: the nonce has at most 24 bytes", () -> typesUpToTheMost(Check.NONCE));
        Check.sentence("2, Terms: aside has at most 32 bytes", () -> typesUpToTheMost(Check.ASIDE));
        Check.sentence("2, Terms: the text has at most 64 bytes", () -> typesUpToTheMost(Check.TEXT));
        Check.sentence("2, Terms: of several exceptions the first", RowEdgesTest::firstExceptionOfType);
    }

    private static void typesTheLowestBytes() {
        long[] many = {0x8182838485868788L, 0x0102030405060708L, Long.MIN_VALUE, Long.MAX_VALUE, -1L, 0L, 256L,
            0xFF00000000000000L, 0x80000000L, 0xFFFFFFFF00000000L};
        for (long bits : many) {
            String whole = String.format("%016x", bits);
            for (int n = 1; n <= 8; n++) {
                byte[] typed = Check.bytes(whole.substring(16 - 2 * n));
                EMPTY.answers(Ask.type(Check.TEXT, bits, n), n, EMPTY.with(Check.TEXT, typed));
            }
        }
    }

    private static void typesBehind() {
        for (int row = 0; row < 4; row++) {
            byte[] longer = Reference.joined(SOME.row(row), Check.bytes("fe01"));
            SOME.answers(Ask.type(row, 0x77FE01L, 2), longer.length, SOME.with(row, longer));
        }
    }

    private static void refusesRowsInType(Held held) {
        for (int row : NO_ROWS) {
            held.refuses(Ask.type(row, 1L, 1), IllegalArgumentException.class);
            held.refuses(Ask.type(row, -1L, 8), IllegalArgumentException.class);
        }
    }

    private static void refusesNumbersInType() {
        for (int n : new int[] {0, 9, -1, -8, 16, 257, Integer.MIN_VALUE, Integer.MAX_VALUE}) {
            for (int row = 0; row < 4; row++) {
                SOME.refuses(Ask.type(row, 1L, n), IllegalArgumentException.class);
            }
        }
    }

    private static void typesUpToTheMost(int row) {
        byte[] whole = Held.of(64, 0, 0, 0, 0).row(0);
        for (int n = 1; n <= 8; n++) {
            int fits = Held.MOST[row] - n;
            Held before = FULL.with(row, Arrays.copyOf(whole, fits));
            Held after = FULL.with(row, Arrays.copyOf(Arrays.copyOf(whole, fits), Held.MOST[row]));
            before.answers(Ask.type(row, 0L, n), Held.MOST[row], after);
            for (int length = fits + 1; length <= Held.MOST[row]; length++) {
                Held tooLong = SOME.with(row, Arrays.copyOf(whole, length));
                tooLong.refuses(Ask.type(row, -1L, n), IllegalStateException.class);
            }
        }
    }

    private static void firstExceptionOfType() {
        refusesRowsInType(FULL);
        for (int row = 0; row < 4; row++) {
            FULL.refuses(Ask.type(row, 1L, 9), IllegalArgumentException.class);
            FULL.refuses(Ask.type(row, 1L, 0), IllegalArgumentException.class);
            FULL.refuses(Ask.type(row, 1L, Integer.MAX_VALUE), IllegalArgumentException.class);
        }
        FULL.refuses(Ask.type(4, 1L, 9), IllegalArgumentException.class);
    }

    private static void promiseThree() {
        Check.sentence("3: a row is empty", RowEdgesTest::clears);
        Check.sentence("3: a cleared row starts anew", RowEdgesTest::typesAfterClear);
        Check.sentence("3: row is not 0 .. 3", () -> {
            for (int row : NO_ROWS) {
                SOME.refuses(Ask.clear(row), IllegalArgumentException.class);
                EMPTY.refuses(Ask.clear(row), IllegalArgumentException.class);
            }
        });
    }

    private static void clears() {
        for (Held held : new Held[] {EMPTY, SOME, FULL, Held.of(1, 1, 1, 1, 16)}) {
            for (int row = 0; row < 4; row++) {
                held.answers(Ask.clear(row), held.row(row).length, held.with(row, NOTHING));
                held.with(row, NOTHING).answers(Ask.clear(row), 0, held.with(row, NOTHING));
            }
        }
    }

    private static void typesAfterClear() {
        for (int row = 0; row < 4; row++) {
            TwoSeals seals = FULL.object();
            seals.clear(row);
            Check.same("type after clear", seals.type(row, 0x0AL, 1), 1);
            FULL.with(row, new byte[] {10}).isIn("cleared and typed", seals);
        }
    }

    private static void promiseFour() {
        Check.sentence("4: byte i becomes v", RowEdgesTest::pokesEveryByte);
        Check.sentence("4: v 0 .. 255", RowEdgesTest::pokesEveryValue);
        Check.sentence("4: row is not 0 .. 3", () -> {
            for (int row : NO_ROWS) {
                SOME.refuses(Ask.poke(row, 0, 0), IllegalArgumentException.class);
            }
        });
        Check.sentence("4: v not 0 .. 255", () -> {
            for (int v : NO_BYTES) {
                for (int row = 0; row < 4; row++) {
                    SOME.refuses(Ask.poke(row, 0, v), IllegalArgumentException.class);
                }
            }
        });
        Check.sentence("4: the row has no such byte", RowEdgesTest::refusesPlacesInPoke);
        Check.sentence("4: a byte that the row had has gone", RowEdgesTest::refusesBytesThatHaveGone);
        Check.sentence("4, Terms: of several exceptions the first", RowEdgesTest::firstExceptionOfPoke);
    }

    private static Held poked(Held held, int row, int i, int v) {
        byte[] bytes = held.row(row);
        bytes[i] = (byte) v;
        return held.with(row, bytes);
    }

    private static void pokesEveryByte() {
        for (Held held : new Held[] {SOME, FULL, Held.of(1, 1, 1, 1, 0)}) {
            for (int row = 0; row < 4; row++) {
                for (int i = 0; i < held.row(row).length; i++) {
                    int v = held.row(row)[i] & 255 ^ 129;
                    held.answers(Ask.poke(row, i, v), "done", poked(held, row, i, v));
                }
            }
        }
    }

    private static void pokesEveryValue() {
        for (int v = 0; v < 256; v++) {
            SOME.answers(Ask.poke(v % 4, 4, v), "done", poked(SOME, v % 4, 4, v));
        }
        for (int row = 0; row < 4; row++) {
            SOME.answers(Ask.poke(row, 0, 0), "done", poked(SOME, row, 0, 0));
            SOME.answers(Ask.poke(row, 0, 255), "done", poked(SOME, row, 0, 255));
        }
    }

    private static void refusesPlacesInPoke() {
        for (Held held : new Held[] {EMPTY, SOME, FULL}) {
            for (int row = 0; row < 4; row++) {
                int length = held.row(row).length;
                for (int i : new int[] {-1, length, length + 1, 64, Integer.MIN_VALUE, Integer.MAX_VALUE}) {
                    held.refuses(Ask.poke(row, i, 1), IndexOutOfBoundsException.class);
                }
            }
        }
    }

    private static void refusesBytesThatHaveGone() {
        for (int row = 0; row < 4; row++) {
            TwoSeals seals = FULL.object();
            seals.clear(row);
            int r = row;
            Check.throwing("poke after clear", IndexOutOfBoundsException.class, () -> seals.poke(r, 0, 1));
            seals.type(row, 0x0B0CL, 2);
            Check.throwing("poke behind the new row", IndexOutOfBoundsException.class, () -> seals.poke(r, 2, 1));
            FULL.with(row, new byte[] {11, 12}).isIn("cleared and typed", seals);
        }
    }

    private static void firstExceptionOfPoke() {
        for (int i : new int[] {-1, 8, Integer.MIN_VALUE, Integer.MAX_VALUE}) {
            SOME.refuses(Ask.poke(-1, i, 0), IllegalArgumentException.class);
            SOME.refuses(Ask.poke(4, i, 0), IllegalArgumentException.class);
            SOME.refuses(Ask.poke(4, i, 256), IllegalArgumentException.class);
            SOME.refuses(Ask.poke(3, i, -1), IllegalArgumentException.class);
            SOME.refuses(Ask.poke(3, i, 256), IllegalArgumentException.class);
        }
    }

    private static void promiseFive() {
        Check.sentence("5: the result becomes a row", () -> takesEveryLength(EMPTY));
        Check.sentence("5: it becomes a row that was full", () -> takesEveryLength(FULL));
        Check.sentence("5: an empty result empties a row", RowEdgesTest::takesAnEmptyResult);
        Check.sentence("5: the result stays", RowEdgesTest::resultAndRowAreApart);
        Check.sentence("5: row is not 0 .. 3", () -> {
            for (int row : NO_ROWS) {
                Held.of(3, 3, 3, 3, 16).refuses(Ask.take(row), IllegalArgumentException.class);
            }
        });
        Check.sentence("5: the result has more than that can have", RowEdgesTest::refusesLongResults);
        Check.sentence("5, Terms: of several exceptions the first", () -> {
            for (int row : NO_ROWS) {
                FULL.refuses(Ask.take(row), IllegalArgumentException.class);
            }
        });
    }

    private static void takesEveryLength(Held rows) {
        for (int length = 0; length <= 64; length++) {
            Held held = rows.withResult(Held.of(0, 0, 0, 0, length).result());
            for (int row = 0; row < 4; row++) {
                if (length <= Held.MOST[row]) {
                    held.answers(Ask.take(row), length, held.with(row, held.result()));
                }
            }
        }
    }

    private static void takesAnEmptyResult() {
        for (int row = 0; row < 4; row++) {
            TwoSeals seals = FULL.object();
            openAnEmptyText(seals);
            Held held = Held.of(16, 24, 32, 16, 0);
            for (int other = 0; other < 4; other++) {
                Check.fill(seals, other, held.row(other));
            }
            Check.same("take of an empty result", seals.take(row), 0);
            held.with(row, NOTHING).isIn("empty result taken", seals);
        }
    }

    private static void openAnEmptyText(TwoSeals seals) {
        seals.clear(Check.TEXT);
        seals.seal(0);
        seals.take(Check.TEXT);
        Check.same("open of a seal alone", seals.open(0), 0);
    }

    private static void resultAndRowAreApart() {
        for (int row = 0; row < 4; row++) {
            Held held = Held.of(16, 12, 9, 16, 16);
            TwoSeals seals = held.object();
            seals.take(row);
            seals.poke(row, 3, 0x5E);
            Held after = poked(held.with(row, held.result()), row, 3, 0x5E);
            after.isIn("taken and poked", seals);
            rowStaysWhenTheResultChanges(held, row);
        }
    }

    private static void rowStaysWhenTheResultChanges(Held held, int row) {
        TwoSeals seals = held.object();
        seals.take(row);
        Held after = held.with(row, held.result());
        seals.block();
        after.withResult(Reference.encipher(after.row(Check.KEY), after.row(Check.TEXT)))
                .isIn("taken, then another result", seals);
    }

    private static void refusesLongResults() {
        for (int row = 0; row < 3; row++) {
            for (int length = Held.MOST[row] + 1; length <= 64; length++) {
                byte[] result = Held.of(0, 0, 0, 0, length).result();
                SOME.withResult(result).refuses(Ask.take(row), IllegalStateException.class);
                FULL.withResult(result).refuses(Ask.take(row), IllegalStateException.class);
            }
        }
    }

    private static void promiseTen() {
        Check.sentence("10: how many bytes the result has", () -> {
            for (int length = 0; length <= 64; length++) {
                Held held = SOME.withResult(Held.of(0, 0, 0, 0, length).result());
                held.answers(Ask.size(), length, held);
            }
        });
        Check.sentence("10: a result may be empty again", () -> {
            TwoSeals seals = FULL.object();
            openAnEmptyText(seals);
            Check.same("size after an empty text was opened", seals.size(), 0);
        });
        Check.sentence("10: a refused call leaves the size", () -> {
            TwoSeals seals = FULL.object();
            Check.throwing("seal of 64", IllegalStateException.class, () -> seals.seal(0));
            Check.same("size after it", seals.size(), 64);
        });
    }

    private static void promiseEleven() {
        Check.sentence("11: byte i of the result", RowEdgesTest::seesEveryByte);
        Check.sentence("11: 0 .. 255", RowEdgesTest::seesEveryValue);
        Check.sentence("11: when there is none", RowEdgesTest::refusesPlacesInAt);
        Check.sentence("11: a byte that the result had has gone", RowEdgesTest::refusesResultsThatHaveGone);
    }

    private static void seesEveryByte() {
        for (int length : new int[] {1, 15, 16, 48, 49, 64}) {
            Held held = SOME.withResult(Held.of(0, 0, 0, 0, length).result());
            TwoSeals seals = held.object();
            for (int i = 0; i < length; i++) {
                Check.same("at(" + i + ") of " + length, seals.at(i), held.result()[i] & 255);
            }
            held.isIn("looked at", seals);
        }
    }

    private static void seesEveryValue() {
        for (int v = 0; v < 256; v++) {
            Held held = SOME.withResult(new byte[] {(byte) v});
            held.answers(Ask.at(0), v, held);
        }
    }

    private static void refusesPlacesInAt() {
        for (int length : new int[] {0, 1, 15, 16, 17, 48, 63, 64}) {
            Held held = FULL.withResult(Held.of(0, 0, 0, 0, length).result());
            for (int i : new int[] {-1, length, length + 1, 64, 65, Integer.MIN_VALUE, Integer.MAX_VALUE}) {
                held.refuses(Ask.at(i), IndexOutOfBoundsException.class);
            }
        }
    }

    private static void refusesResultsThatHaveGone() {
        TwoSeals seals = FULL.object();
        seals.hash(0);
        Check.same("at(15) of a hash", seals.at(15) >= 0, true);
        Check.throwing("at(16) of a hash", IndexOutOfBoundsException.class, () -> seals.at(16));
        openAnEmptyText(seals);
        Check.throwing("at(0) of an empty text", IndexOutOfBoundsException.class, () -> seals.at(0));
    }
}
