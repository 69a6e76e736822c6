/** E(K, X) once more, sentence by sentence as the document says it, so that tests can look at words and rounds. */
final class PlainCipher {
    private PlainCipher() {
    }

    static int doubled(int a) {
        return 2 * a > 255 ? 2 * a ^ 283 : 2 * a;
    }

    static int product(int a, int b) {
        int sum = 0;
        int term = a;
        for (int k = 0; k < 8; k++) {
            sum ^= (b >> k & 1) == 1 ? term : 0;
            term = doubled(term);
        }
        return sum;
    }

    private static int inverse(int a) {
        for (int b = 1; b < 256; b++) {
            if (product(a, b) == 1) {
                return b;
            }
        }
        return 0;
    }

    static int box(int a) {
        int b = inverse(a);
        int sum = b ^ 99;
        for (int by = 1; by <= 4; by++) {
            sum ^= (b << by | b >> 8 - by) & 255;
        }
        return sum;
    }

    /** The words 0 .. 43 of a key, one byte behind the other. */
    static int[] words(byte[] key) {
        int[] words = new int[176];
        for (int j = 0; j < 16; j++) {
            words[j] = key[j] & 255;
        }
        int c = 1;
        for (int i = 4; i < 44; i++) {
            for (int r = 0; r < 4; r++) {
                int added = i % 4 == 0 ? box(words[4 * (i - 1) + (r + 1) % 4]) : words[4 * (i - 1) + r];
                words[4 * i + r] = words[4 * (i - 4) + r] ^ added;
            }
            if (i % 4 == 0) {
                words[4 * i] ^= c;
                c = doubled(c);
            }
        }
        return words;
    }

    /** What the rounds from .. 10 make of a block. */
    static byte[] rounds(int[] words, byte[] block, int from) {
        int[] state = new int[16];
        for (int j = 0; j < 16; j++) {
            state[j] = block[j] & 255;
        }
        for (int k = from; k <= 10; k++) {
            state = round(words, state, k);
        }
        byte[] out = new byte[16];
        for (int j = 0; j < 16; j++) {
            out[j] = (byte) state[j];
        }
        return out;
    }

    private static int[] round(int[] words, int[] state, int k) {
        int[] moved = new int[16];
        int[] out = new int[16];
        for (int j = 0; j < 16; j++) {
            moved[j] = box(state[4 * ((j / 4 + j % 4) % 4) + j % 4]);
        }
        for (int j = 0; j < 16; j++) {
            int c = j / 4 * 4;
            int mixed = product(2, moved[j]) ^ product(3, moved[c + (j + 1) % 4])
                    ^ moved[c + (j + 2) % 4] ^ moved[c + (j + 3) % 4];
            out[j] = (k == 10 ? moved[j] : mixed) ^ words[16 * k + j];
        }
        return out;
    }
}
