import java.util.Arrays;
import java.util.Random;

/** All that an object holds, as a test knows it: its four rows and its result. It is never changed. */
final class Held {
    static final int[] MOST = {16, 24, 32, 64};

    private static final byte[] NOTHING = new byte[0];
    private static final byte[] MAKER_KEY = Check.bytes("a1a2a3a4a5a6a7a8a9aaabacadaeafb0");
    private static final byte[] MAKER_NONCE = Check.bytes("c1c2c3c4c5c6c7c8c9cacbcc");
    private static final int OPENED_MOST = 48;

    private final byte[][] rows;
    private final byte[] result;

    private Held(byte[][] rows, byte[] result) {
        this.rows = rows;
        this.result = result;
    }

    /** Rows and a result of these lengths, with bytes of a fixed Random. */
    static Held of(int key, int nonce, int aside, int text, int result) {
        Random random = new Random(Arrays.hashCode(new int[] {key, nonce, aside, text, result}));
        byte[][] rows = {Check.bytesOf(random, key), Check.bytesOf(random, nonce),
            Check.bytesOf(random, aside), Check.bytesOf(random, text)};
        return new Held(rows, resultOf(random, result));
    }

    // No text opened is as long as that, so a longer result has to be a sealed one.
    private static byte[] resultOf(Random random, int length) {
        if (length <= OPENED_MOST) {
            return Check.bytesOf(random, length);
        }
        return Reference.sealed(0, MAKER_KEY, MAKER_NONCE, NOTHING, Check.bytesOf(random, length - 16));
    }

    byte[] row(int row) {
        return rows[row].clone();
    }

    byte[] result() {
        return result.clone();
    }

    Held with(int row, byte[] bytes) {
        byte[][] others = rows.clone();
        others[row] = bytes;
        return new Held(others, result);
    }

    Held withResult(byte[] bytes) {
        return new Held(rows, bytes);
    }

    /** A new object that holds this. */
    TwoSeals object() {
        TwoSeals seals = new TwoSeals();
        if (result.length > 0) {
            makeResult(seals);
        }
        for (int row = 0; row < 4; row++) {
            Check.fill(seals, row, rows[row]);
        }
        return seals;
    }

    private void makeResult(TwoSeals seals) {
        Check.fill(seals, Check.KEY, MAKER_KEY);
        Check.fill(seals, Check.NONCE, MAKER_NONCE);
        if (result.length <= OPENED_MOST) {
            Check.fill(seals, Check.TEXT, Reference.sealed(0, MAKER_KEY, MAKER_NONCE, NOTHING, result));
            seals.open(0);
        } else {
            Check.fill(seals, Check.TEXT, Reference.opened(0, MAKER_KEY, MAKER_NONCE, NOTHING, result));
            seals.seal(0);
        }
    }

    /** Asks an object that holds this, and looks at all that it holds then. */
    void answers(Ask ask, Object due, Held after) {
        TwoSeals seals = object();
        Check.same(ask.name(), Check.outcome(() -> ask.call().apply(seals)), String.valueOf(due));
        after.isIn("after " + ask.name(), seals);
    }

    /** A call that throws changes nothing. */
    void refuses(Ask ask, Class<? extends RuntimeException> due) {
        answers(ask, "throws " + due.getSimpleName(), this);
    }

    /** Compares every row and the result; the object is used up by it. */
    void isIn(String what, TwoSeals seals) {
        Check.same(what + ", the result", Check.hexResult(seals), Check.hex(result));
        byte[] key = keyFilledUp(what, seals);
        seals.hash(0);
        Check.same(what + ", the text's hash", Check.hexResult(seals),
                Check.hex(Reference.hash(0, key, Reference.padded(rows[Check.TEXT]))));
        Check.same(what + ", the text's length", seals.clear(Check.TEXT), rows[Check.TEXT].length);
        byte[] nonce = nonceNotEmpty(what, seals);
        seals.seal(0);
        Check.same(what + ", the seal of key, nonce and aside", Check.hexResult(seals),
                Check.hex(Reference.sealed(0, key, nonce, rows[Check.ASIDE], NOTHING)));
        Check.same(what + ", the key's length", seals.clear(Check.KEY), 16);
        Check.same(what + ", the nonce's length", seals.clear(Check.NONCE), nonce.length);
        Check.same(what + ", aside's length", seals.clear(Check.ASIDE), rows[Check.ASIDE].length);
    }

    // Only a key of 16 bytes can be seen through a hash or a seal.
    private byte[] keyFilledUp(String what, TwoSeals seals) {
        int length = rows[Check.KEY].length;
        byte[] key = Arrays.copyOf(rows[Check.KEY], 16);
        for (int i = length; i < 16; i++) {
            key[i] = 60;
            Check.same(what + ", the key and one byte more", seals.type(Check.KEY, 60L, 1), i + 1);
        }
        return key;
    }

    private byte[] nonceNotEmpty(String what, TwoSeals seals) {
        if (rows[Check.NONCE].length > 0) {
            return rows[Check.NONCE];
        }
        Check.same(what + ", the empty nonce and one byte more", seals.type(Check.NONCE, 61L, 1), 1);
        return new byte[] {61};
    }
}
