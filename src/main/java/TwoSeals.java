/**
 * Texts that are enciphered and sealed in two ways, with the block cipher AES
 * and hashes in a field of 2^128. A byte is held as an int 0 .. 255 throughout.
 */
public final class TwoSeals {
    private static final int KEY = 0;
    private static final int NONCE = 1;
    private static final int ASIDE = 2;
    private static final int TEXT = 3;
    private static final int ROWS = 4;
    private static final int WAYS = 2;

    private static final int BLOCK = 16;
    private static final int HALF = 8;
    private static final int USUAL_NONCE = 12;
    private static final int KEY_MOST = 16;
    private static final int NONCE_MOST = 24;
    private static final int ASIDE_MOST = 32;
    private static final int TEXT_MOST = 64;
    private static final int SEALABLE_MOST = 48;

    private final Row[] rows;
    private final Row result;
    // open() works here, so that a refused seal leaves the result as it was.
    private final Row draft;
    private final Cipher cipher;
    private final Hasher[] hashers;
    private final Way[] ways;

    public TwoSeals() {
        rows = new Row[ROWS];
        rows[KEY] = new Row(KEY_MOST);
        rows[NONCE] = new Row(NONCE_MOST);
        rows[ASIDE] = new Row(ASIDE_MOST);
        rows[TEXT] = new Row(TEXT_MOST);
        result = new Row(TEXT_MOST);
        draft = new Row(TEXT_MOST);
        cipher = new Cipher();
        hashers = new Hasher[WAYS];
        hashers[0] = new Hasher(true);
        hashers[1] = new Hasher(false);
        ways = new Way[WAYS];
        ways[0] = new WayZero(cipher, hashers[0]);
        ways[1] = new WayOne(cipher, hashers[1]);
    }

    public int type(int row, long bits, int n) throws IllegalArgumentException, IllegalStateException {
        requireRow(row);
        if (n < 1 || n > 8) {
            throw new IllegalArgumentException("1 to 8 bytes can be typed");
        }
        Row typed = rows[row];
        if (!typed.hasRoomFor(typed.length + n)) {
            throw new IllegalStateException("the row would be too long");
        }
        for (int k = n - 1; k >= 0; k--) {
            typed.append((int) (bits >>> (8 * k)) & 255);
        }
        return typed.length;
    }

    public int clear(int row) throws IllegalArgumentException {
        requireRow(row);
        int had = rows[row].length;
        rows[row].length = 0;
        return had;
    }

    public void poke(int row, int i, int v) throws IllegalArgumentException, IndexOutOfBoundsException {
        requireRow(row);
        if (v < 0 || v > 255) {
            throw new IllegalArgumentException("a byte is 0 to 255");
        }
        if (!rows[row].has(i)) {
            throw new IndexOutOfBoundsException("the row has no such byte");
        }
        rows[row].bytes[i] = v;
    }

    public int take(int row) throws IllegalArgumentException, IllegalStateException {
        requireRow(row);
        if (!rows[row].hasRoomFor(result.length)) {
            throw new IllegalStateException("the result is too long for the row");
        }
        rows[row].become(result);
        return result.length;
    }

    public void block() throws IllegalStateException {
        if (rows[KEY].length != BLOCK || rows[TEXT].length != BLOCK) {
            throw new IllegalStateException("key and text must have 16 bytes");
        }
        cipher.useKey(rows[KEY].bytes);
        cipher.encipher(rows[TEXT].bytes, result.bytes);
        result.length = BLOCK;
    }

    public void hash(int way) throws IllegalArgumentException, IllegalStateException {
        requireWay(way);
        if (rows[KEY].length != BLOCK) {
            throw new IllegalStateException("the key must have 16 bytes");
        }
        Hasher hasher = hashers[way];
        hasher.begin(rows[KEY].bytes);
        hasher.add(rows[TEXT].bytes, rows[TEXT].length);
        hasher.write(result.bytes);
        result.length = BLOCK;
    }

    public int seal(int way) throws IllegalArgumentException, IllegalStateException {
        requireWay(way);
        requireKeyAndNonce(way);
        if (rows[TEXT].length > SEALABLE_MOST) {
            throw new IllegalStateException("the text is too long to be sealed");
        }
        ways[way].useKey(rows[KEY], rows[NONCE]);
        ways[way].sealText(rows, result);
        return result.length;
    }

    public int open(int way)
            throws IllegalArgumentException, IllegalStateException, UnsupportedOperationException {
        requireWay(way);
        requireKeyAndNonce(way);
        if (rows[TEXT].length < BLOCK) {
            throw new IllegalStateException("the text is too short to end in a seal");
        }
        ways[way].useKey(rows[KEY], rows[NONCE]);
        if (!ways[way].openText(rows, draft)) {
            throw new UnsupportedOperationException("the seal is another one");
        }
        result.become(draft);
        return result.length;
    }

    public int size() {
        return result.length;
    }

    public int at(int i) throws IndexOutOfBoundsException {
        if (!result.has(i)) {
            throw new IndexOutOfBoundsException("the result has no such byte");
        }
        return result.bytes[i];
    }

    private static void requireRow(int row) {
        if (row < 0 || row >= ROWS) {
            throw new IllegalArgumentException("rows are 0 to 3");
        }
    }

    private static void requireWay(int way) {
        if (way < 0 || way >= WAYS) {
            throw new IllegalArgumentException("ways are 0 and 1");
        }
    }

    private void requireKeyAndNonce(int way) {
        if (rows[KEY].length != BLOCK || !ways[way].takesNonceOf(rows[NONCE].length)) {
            throw new IllegalStateException("key or nonce is not as the way wants it");
        }
    }

    /** Up to a fixed number of bytes; what stands behind its length is stale. */
    private static final class Row {
        final int[] bytes;
        int length;

        Row(int most) {
            bytes = new int[most];
            length = 0;
        }

        boolean hasRoomFor(int wanted) {
            return wanted <= bytes.length;
        }

        boolean has(int i) {
            return i >= 0 && i < length;
        }

        void append(int v) {
            bytes[length] = v;
            length++;
        }

        void become(Row other) {
            System.arraycopy(other.bytes, 0, bytes, 0, other.length);
            length = other.length;
        }
    }

    /** E(K, X) of the document. */
    private static final class Cipher {
        private static final int ROUNDS = 10;
        private static final int WORDS = 44;

        private final int[] box;
        private final int[] words;
        private final int[] state;
        private final int[] moved;

        Cipher() {
            box = makeBox();
            words = new int[4 * WORDS];
            state = new int[BLOCK];
            moved = new int[BLOCK];
        }

        // The powers of 3 run through all bytes but 0, and the 255th is 1
        // again: so the byte whose product with power k is 1 is power 255 - k.
        private static int[] makeBox() {
            int[] box = new int[256];
            int[] powers = new int[256];
            powers[0] = 1;
            for (int k = 1; k < 256; k++) {
                powers[k] = tripled(powers[k - 1]);
            }
            for (int k = 0; k < 255; k++) {
                box[powers[k]] = spread(powers[255 - k]);
            }
            box[0] = spread(0);
            return box;
        }

        private static int spread(int b) {
            return b ^ turned(b, 1) ^ turned(b, 2) ^ turned(b, 3) ^ turned(b, 4) ^ 99;
        }

        private static int turned(int b, int by) {
            return (b << by | b >> (8 - by)) & 255;
        }

        private static int doubled(int a) {
            int twice = 2 * a;
            return twice > 255 ? twice ^ 283 : twice;
        }

        private static int tripled(int a) {
            return doubled(a) ^ a;
        }

        void useKey(int[] key) {
            System.arraycopy(key, 0, words, 0, BLOCK);
            int c = 1;
            for (int i = 4; i < WORDS; i++) {
                if (i % 4 == 0) {
                    makeBoxedWord(i, c);
                    c = doubled(c);
                } else {
                    makeWord(i);
                }
            }
        }

        private void makeWord(int i) {
            for (int r = 0; r < 4; r++) {
                words[4 * i + r] = words[4 * (i - 4) + r] ^ words[4 * (i - 1) + r];
            }
        }

        private void makeBoxedWord(int i, int c) {
            for (int r = 0; r < 4; r++) {
                words[4 * i + r] = words[4 * (i - 4) + r] ^ box[words[4 * (i - 1) + (r + 1) % 4]];
            }
            words[4 * i] ^= c;
        }

        void encipher(int[] from, int[] to) {
            System.arraycopy(from, 0, state, 0, BLOCK);
            addWords(0);
            for (int round = 1; round <= ROUNDS; round++) {
                boxAndMove();
                if (round < ROUNDS) {
                    mix();
                } else {
                    System.arraycopy(moved, 0, state, 0, BLOCK);
                }
                addWords(round);
            }
            System.arraycopy(state, 0, to, 0, BLOCK);
        }

        private void addWords(int round) {
            for (int j = 0; j < BLOCK; j++) {
                state[j] ^= words[BLOCK * round + j];
            }
        }

        private void boxAndMove() {
            for (int c = 0; c < 4; c++) {
                for (int r = 0; r < 4; r++) {
                    moved[4 * c + r] = box[state[4 * ((c + r) % 4) + r]];
                }
            }
        }

        private void mix() {
            for (int c = 0; c < 4; c++) {
                for (int r = 0; r < 4; r++) {
                    state[4 * c + r] = doubled(moved[4 * c + r])
                            ^ tripled(moved[4 * c + (r + 1) % 4])
                            ^ moved[4 * c + (r + 2) % 4]
                            ^ moved[4 * c + (r + 3) % 4];
                }
            }
        }
    }

    /**
     * The hash of blocks, outward or inward. A polynomial is held in two longs:
     * bit k of the low one is the coefficient of x^k, of the high one that of
     * x^(64 + k), so that both ways share one product.
     */
    private static final class Hasher {
        private static final long OUTWARD_LOW = 0x87L;
        private static final long INWARD_HIGH = 0xC200000000000000L;
        private static final long INWARD_LOW = 1L;
        private static final long BESIDES_HIGH = 0x9204000000000000L;
        private static final long BESIDES_LOW = 1L;

        private final boolean outward;
        // 7 - k is k ^ 7 for the bits 0 .. 7 of a byte, so outward this is 7.
        private final int mirror;
        // What x^128 is, modulo the way's polynomial.
        private final long overflowHigh;
        private final long overflowLow;
        private final int[] lengths;
        private long keyHigh;
        private long keyLow;
        private long sumHigh;
        private long sumLow;

        Hasher(boolean outward) {
            this.outward = outward;
            mirror = outward ? 7 : 0;
            overflowHigh = outward ? 0L : INWARD_HIGH;
            overflowLow = outward ? OUTWARD_LOW : INWARD_LOW;
            lengths = new int[BLOCK];
        }

        void begin(int[] key) {
            keyHigh = readHalf(key, HALF, BLOCK);
            keyLow = readHalf(key, 0, BLOCK);
            if (!outward) {
                putBesidesIntoKey();
            }
            sumHigh = 0L;
            sumLow = 0L;
        }

        // Every inward product is taken times the same polynomial besides:
        // taken into H once, it is in all of them.
        private void putBesidesIntoKey() {
            sumHigh = BESIDES_HIGH;
            sumLow = BESIDES_LOW;
            multiplySumByKey();
            keyHigh = sumHigh;
            keyLow = sumLow;
        }

        void add(int[] bytes, int length) {
            for (int from = 0; from < length; from += BLOCK) {
                sumLow ^= readHalf(bytes, from, length);
                sumHigh ^= readHalf(bytes, from + HALF, length);
                multiplySumByKey();
            }
        }

        void addLengths(int a, int b) {
            putLength(0, 8L * a);
            putLength(HALF, 8L * b);
            add(lengths, BLOCK);
        }

        private void putLength(int from, long bits) {
            for (int j = 0; j < HALF; j++) {
                int place = outward ? HALF - 1 - j : j;
                lengths[from + place] = (int) (bits >>> (8 * j)) & 255;
            }
        }

        void write(int[] to) {
            writeHalf(sumLow, to, 0);
            writeHalf(sumHigh, to, HALF);
        }

        // Bytes from length on count as 0: that pads the last block.
        private long readHalf(int[] bytes, int from, int length) {
            long half = 0L;
            for (int k = 0; k < 64 && from + k / 8 < length; k++) {
                long bit = bytes[from + k / 8] >> (k % 8 ^ mirror) & 1;
                half |= bit << k;
            }
            return half;
        }

        private void writeHalf(long half, int[] to, int from) {
            for (int j = 0; j < HALF; j++) {
                to[from + j] = 0;
            }
            for (int k = 0; k < 64; k++) {
                int bit = (int) (half >>> k) & 1;
                to[from + k / 8] |= bit << (k % 8 ^ mirror);
            }
        }

        private void multiplySumByKey() {
            long timesHigh = keyHigh;
            long timesLow = keyLow;
            long productHigh = 0L;
            long productLow = 0L;
            for (int k = 0; k < 128; k++) {
                long half = k < 64 ? sumLow : sumHigh;
                if ((half >>> (k % 64) & 1L) != 0L) {
                    productHigh ^= timesHigh;
                    productLow ^= timesLow;
                }
                boolean overflows = timesHigh < 0L;
                timesHigh = timesHigh << 1 | timesLow >>> 63;
                timesLow = timesLow << 1;
                if (overflows) {
                    timesHigh ^= overflowHigh;
                    timesLow ^= overflowLow;
                }
            }
            sumHigh = productHigh;
            sumLow = productLow;
        }
    }

    /** One way to seal and open; its blocks are made once and used by every call. */
    private abstract static class Way {
        final Cipher cipher;
        final Hasher hasher;
        final int[] hashKey;
        // What the counted blocks are made from: J in way 0, the seal in way 1.
        final int[] start;
        final int[] counted;
        final int[] enciphered;
        final int[] due;

        Way(Cipher cipher, Hasher hasher) {
            this.cipher = cipher;
            this.hasher = hasher;
            hashKey = new int[BLOCK];
            start = new int[BLOCK];
            counted = new int[BLOCK];
            enciphered = new int[BLOCK];
            due = new int[BLOCK];
        }

        abstract boolean takesNonceOf(int length);

        abstract void useKey(Row key, Row nonce);

        abstract void sealText(Row[] rows, Row sealed);

        abstract boolean openText(Row[] rows, Row opened);

        abstract void count(int part);

        /** Both ciphers and deciphers: the same bytes are added by ^. */
        final void cipherText(int[] from, int length, int[] to) {
            for (int done = 0; done < length; done += BLOCK) {
                count(done / BLOCK);
                cipher.encipher(counted, enciphered);
                for (int j = 0; j < BLOCK && done + j < length; j++) {
                    to[done + j] = from[done + j] ^ enciphered[j];
                }
            }
        }

        final void hashWithAside(Row aside, int[] bytes, int length) {
            hasher.begin(hashKey);
            hasher.add(aside.bytes, aside.length);
            hasher.add(bytes, length);
            hasher.addLengths(aside.length, length);
            hasher.write(due);
        }

        final void appendDue(Row sealed, int length) {
            System.arraycopy(due, 0, sealed.bytes, length, BLOCK);
            sealed.length = length + BLOCK;
        }

        final boolean endsInDue(Row text) {
            int difference = 0;
            for (int j = 0; j < BLOCK; j++) {
                difference |= text.bytes[text.length - BLOCK + j] ^ due[j];
            }
            return difference == 0;
        }
    }

    /** Galois counter mode. */
    private static final class WayZero extends Way {
        private final int[] zeros;

        WayZero(Cipher cipher, Hasher hasher) {
            super(cipher, hasher);
            zeros = new int[BLOCK];
        }

        @Override
        boolean takesNonceOf(int length) {
            return length >= 1;
        }

        @Override
        void useKey(Row key, Row nonce) {
            cipher.useKey(key.bytes);
            cipher.encipher(zeros, hashKey);
            if (nonce.length == USUAL_NONCE) {
                System.arraycopy(nonce.bytes, 0, start, 0, USUAL_NONCE);
                System.arraycopy(zeros, 0, start, USUAL_NONCE, BLOCK - USUAL_NONCE);
                start[BLOCK - 1] = 1;
            } else {
                hasher.begin(hashKey);
                hasher.add(nonce.bytes, nonce.length);
                hasher.addLengths(0, nonce.length);
                hasher.write(start);
            }
        }

        @Override
        void sealText(Row[] rows, Row sealed) {
            int length = rows[TEXT].length;
            cipherText(rows[TEXT].bytes, length, sealed.bytes);
            makeDue(rows[ASIDE], sealed.bytes, length);
            appendDue(sealed, length);
        }

        @Override
        boolean openText(Row[] rows, Row opened) {
            int length = rows[TEXT].length - BLOCK;
            makeDue(rows[ASIDE], rows[TEXT].bytes, length);
            cipherText(rows[TEXT].bytes, length, opened.bytes);
            opened.length = length;
            return endsInDue(rows[TEXT]);
        }

        private void makeDue(Row aside, int[] ciphered, int length) {
            hashWithAside(aside, ciphered, length);
            cipher.encipher(start, enciphered);
            for (int j = 0; j < BLOCK; j++) {
                due[j] ^= enciphered[j];
            }
        }

        @Override
        void count(int part) {
            System.arraycopy(start, 0, counted, 0, BLOCK);
            int number = 0;
            for (int j = USUAL_NONCE; j < BLOCK; j++) {
                number = number << 8 | start[j];
            }
            number += part + 1;
            for (int j = BLOCK - 1; j >= USUAL_NONCE; j--) {
                counted[j] = number & 255;
                number >>>= 8;
            }
        }
    }

    /** Its brother, that bears a nonce used twice. */
    private static final class WayOne extends Way {
        private final int[] textKey;

        WayOne(Cipher cipher, Hasher hasher) {
            super(cipher, hasher);
            textKey = new int[BLOCK];
        }

        @Override
        boolean takesNonceOf(int length) {
            return length == USUAL_NONCE;
        }

        @Override
        void useKey(Row key, Row nonce) {
            cipher.useKey(key.bytes);
            derive(0, nonce, hashKey, 0);
            derive(1, nonce, hashKey, HALF);
            derive(2, nonce, textKey, 0);
            derive(3, nonce, textKey, HALF);
            cipher.useKey(textKey);
        }

        private void derive(int i, Row nonce, int[] to, int from) {
            int before = BLOCK - USUAL_NONCE;
            for (int j = 0; j < before; j++) {
                counted[j] = 0;
            }
            counted[0] = i;
            System.arraycopy(nonce.bytes, 0, counted, before, USUAL_NONCE);
            cipher.encipher(counted, enciphered);
            System.arraycopy(enciphered, 0, to, from, HALF);
        }

        @Override
        void sealText(Row[] rows, Row sealed) {
            int length = rows[TEXT].length;
            makeDue(rows, rows[TEXT].bytes, length);
            System.arraycopy(due, 0, start, 0, BLOCK);
            cipherText(rows[TEXT].bytes, length, sealed.bytes);
            appendDue(sealed, length);
        }

        @Override
        boolean openText(Row[] rows, Row opened) {
            int length = rows[TEXT].length - BLOCK;
            System.arraycopy(rows[TEXT].bytes, length, start, 0, BLOCK);
            cipherText(rows[TEXT].bytes, length, opened.bytes);
            opened.length = length;
            makeDue(rows, opened.bytes, length);
            return endsInDue(rows[TEXT]);
        }

        private void makeDue(Row[] rows, int[] plain, int length) {
            hashWithAside(rows[ASIDE], plain, length);
            for (int j = 0; j < USUAL_NONCE; j++) {
                due[j] ^= rows[NONCE].bytes[j];
            }
            due[BLOCK - 1] &= 127;
            cipher.encipher(due, due);
        }

        @Override
        void count(int part) {
            System.arraycopy(start, 0, counted, 0, BLOCK);
            counted[BLOCK - 1] |= 128;
            int number = 0;
            for (int j = 3; j >= 0; j--) {
                number = number << 8 | start[j];
            }
            number += part;
            for (int j = 0; j < 4; j++) {
                counted[j] = number & 255;
                number >>>= 8;
            }
        }
    }
}
