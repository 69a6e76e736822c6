import java.math.BigInteger;
import java.util.Arrays;
import java.util.Random;

/** The document's Terms at their edges, a test for each sentence that names one. */
final class TermEdgesTest {
    private static final byte[] NOTHING = new byte[0];
    private static final byte[] ZEROS = new byte[16];
    // With these as H a product is its other factor, outward and inward.
    private static final String[] ONE = {"80000000000000000000000000000000", "010000000000000000000000000000c2"};

    private TermEdgesTest() {
    }

    public static void main(String[] args) {
        bytesAsAField();
        cipher();
        polynomials();
        padding();
        lengths();
        wayZero();
        wayOne();
        Check.sentence("a call that throws changes nothing", TermEdgesTest::refusedCallsChangeNothing);
        Check.sentence("an object is used for at most 512 calls", TermEdgesTest::answersTheLastCall);
        Check.end();
    }

    private static byte[] enciphered(byte[] key, byte[] text) {
        TwoSeals seals = Check.filled(key, NOTHING, NOTHING, text);
        seals.block();
        return Check.result(seals);
    }

    private static byte[] hashed(int way, byte[] key, byte[] text) {
        TwoSeals seals = Check.filled(key, NOTHING, NOTHING, text);
        seals.hash(way);
        return Check.result(seals);
    }

    private static byte[] sealed(int way, byte[] key, byte[] nonce, byte[] aside, byte[] text) {
        TwoSeals seals = Check.filled(key, nonce, aside, text);
        seals.seal(way);
        return Check.result(seals);
    }

    private static void bytesAsAField() {
        Check.sentence("the box of a byte, 0 for 0 among them", () -> {
            for (int v = 0; v < 256; v++) {
                // Round 10 alone: byte 0 of the state before it is v, and the rest is 0.
                byte[] state = new byte[16];
                state[0] = (byte) v;
                int due = PlainCipher.box(v) ^ PlainCipher.words(ZEROS)[160];
                Check.same("box of " + v, lastRound(ZEROS, state)[0] & 255, due);
            }
            Check.same("the box of 0", PlainCipher.box(0), 99);
            Check.same("the box of 1", PlainCipher.box(1), 124);
            Check.same("the box of 255", PlainCipher.box(255), 22);
        });
        Check.sentence("more than 255: ^ 283", () -> {
            Check.same("127 doubled", PlainCipher.doubled(127), 254);
            Check.same("128 doubled", PlainCipher.doubled(128), 27);
            for (int v = 0; v < 256; v++) {
                for (int place = 0; place < 16; place++) {
                    byte[] text = new byte[16];
                    text[place] = (byte) v;
                    Check.same("block with " + v, Check.hex(enciphered(ZEROS, text)),
                            Check.hex(Reference.encipher(ZEROS, text)));
                }
            }
        });
    }

    private static void cipher() {
        Check.sentence("X ^ the words 0 .. 3 goes through the rounds", TermEdgesTest::firstWords);
        Check.sentence("the words 0 .. 43 have four bytes each; 0 .. 3 are K's", TermEdgesTest::wordsOfOneKey);
        Check.sentence("word i is word i - 4 ^ (byte by byte) word i - 1", TermEdgesTest::wordsInBetween);
        Check.sentence("if i is a multiple of 4, the boxes of its bytes 1, 2, 3, 0, the first one also ^ c",
                TermEdgesTest::wordsOfMultiplesOfFour);
        Check.sentence("byte 4 c + r becomes what byte 4 ((c + r) % 4) + r was", TermEdgesTest::movedBytes);
        Check.sentence("not in round 10; at last the words 40 .. 43", TermEdgesTest::lastRoundAndWords);
        Check.sentence("the rounds 1 .. 10", TermEdgesTest::allRounds);
    }

    // K ^ K is 0, each box 99, and mixed it stays so: 2 ^ 3 ^ 1 ^ 1 is 1.
    private static void firstWords() {
        Random random = new Random(1001);
        for (int run = 0; run < 20; run++) {
            byte[] key = Check.bytesOf(random, 16);
            int[] words = PlainCipher.words(key);
            byte[] afterRoundOne = new byte[16];
            for (int j = 0; j < 16; j++) {
                afterRoundOne[j] = (byte) (99 ^ words[16 + j]);
            }
            Check.same("E(K, K)", Check.hex(enciphered(key, key)),
                    Check.hex(PlainCipher.rounds(words, afterRoundOne, 2)));
        }
    }

    private static String fourWords(int[] words, int from) {
        byte[] four = new byte[16];
        for (int j = 0; j < 16; j++) {
            four[j] = (byte) words[4 * from + j];
        }
        return Check.hex(four);
    }

    // Before round 10 all is 0, so that what comes out is 99 ^ the words 40 .. 43.
    private static String lastWordsSeen(byte[] key) {
        return Check.hex(Reference.xor(lastRound(key, ZEROS), Check.bytes("63636363636363636363636363636363")));
    }

    private static void wordsOfOneKey() {
        byte[] key = Check.bytes("2b7e151628aed2a6abf7158809cf4f3c");
        int[] words = PlainCipher.words(key);
        // Worked out from the document's sentence apart from all that stands in this project.
        Check.same("the words 0 .. 3", fourWords(words, 0), Check.hex(key));
        Check.same("the words 4 .. 7", fourWords(words, 4), "a0fafe1788542cb123a339392a6c7605");
        Check.same("the words 40 .. 43", fourWords(words, 40), "d014f9a8c9ee2589e13f0cc8b6630ca6");
        Check.same("the last words", lastWordsSeen(key), "d014f9a8c9ee2589e13f0cc8b6630ca6");
    }

    private static void wordsInBetween() {
        Random random = new Random(1004);
        for (int run = 0; run < 20; run++) {
            byte[] key = Check.bytesOf(random, 16);
            int[] words = PlainCipher.words(key);
            for (int i = 5; i < 44; i += i % 4 == 3 ? 2 : 1) {
                for (int r = 0; r < 4; r++) {
                    Check.same("byte " + r + " of word " + i, words[4 * i + r],
                            words[4 * (i - 4) + r] ^ words[4 * (i - 1) + r]);
                }
            }
            Check.same("the last words", lastWordsSeen(key), fourWords(words, 40));
        }
    }

    private static void wordsOfMultiplesOfFour() {
        int[] c = {1, 2, 4, 8, 16, 32, 64, 128, 27, 54};
        Random random = new Random(1005);
        for (int run = 0; run < 20; run++) {
            byte[] key = Check.bytesOf(random, 16);
            int[] words = PlainCipher.words(key);
            for (int i = 4; i < 44; i += 4) {
                int[] due = {words[4 * i - 16] ^ PlainCipher.box(words[4 * i - 3]) ^ c[i / 4 - 1],
                    words[4 * i - 15] ^ PlainCipher.box(words[4 * i - 2]),
                    words[4 * i - 14] ^ PlainCipher.box(words[4 * i - 1]),
                    words[4 * i - 13] ^ PlainCipher.box(words[4 * i - 4])};
                for (int r = 0; r < 4; r++) {
                    Check.same("byte " + r + " of word " + i, words[4 * i + r], due[r]);
                }
            }
            Check.same("the last words", lastWordsSeen(key), fourWords(words, 40));
        }
    }

    // What the program makes of the X for which this is the state before round 10.
    private static byte[] lastRound(byte[] key, byte[] state) {
        byte[] due = PlainCipher.rounds(PlainCipher.words(key), state, 10);
        return enciphered(key, Reference.decipher(key, due));
    }

    private static void movedBytes() {
        int[] cameFrom = {0, 5, 10, 15, 4, 9, 14, 3, 8, 13, 2, 7, 12, 1, 6, 11};
        int[] words = PlainCipher.words(ZEROS);
        byte[] state = new byte[16];
        for (int j = 0; j < 16; j++) {
            state[j] = (byte) (j + 100);
        }
        byte[] out = lastRound(ZEROS, state);
        for (int j = 0; j < 16; j++) {
            Check.same("byte " + j + " of round 10", out[j] & 255,
                    PlainCipher.box(cameFrom[j] + 100) ^ words[160 + j]);
        }
    }

    private static void lastRoundAndWords() {
        Random random = new Random(1002);
        for (int run = 0; run < 20; run++) {
            byte[] key = Check.bytesOf(random, 16);
            byte[] state = Check.bytesOf(random, 16);
            byte[] due = PlainCipher.rounds(PlainCipher.words(key), state, 10);
            Check.same("round 10", Check.hex(lastRound(key, state)), Check.hex(due));
        }
    }

    private static void allRounds() {
        Random random = new Random(1003);
        for (int run = 0; run < 20; run++) {
            byte[] key = Check.bytesOf(random, 16);
            byte[] text = Check.bytesOf(random, 16);
            byte[] due = PlainCipher.rounds(PlainCipher.words(key), Reference.xor(text, key), 1);
            Check.same("E(K, X)", Check.hex(enciphered(key, text)), Check.hex(due));
        }
    }

    private static void hashIs(int way, String key, String text, String due) {
        Check.same("hash(" + way + ") of " + text + " with " + key,
                Check.hex(hashed(way, Check.bytes(key), Check.bytes(text))), due);
    }

    private static void polynomials() {
        Check.sentence("outward: x^127 times x is x^7 + x^2 + x + 1", () -> {
            String x = "40000000000000000000000000000000";
            hashIs(0, x, "00000000000000000000000000000001", "e1000000000000000000000000000000");
            hashIs(0, x, "00000000000000000000000000000002", "00000000000000000000000000000001");
            hashIs(0, x, "01000000000000000000000000000000", "00800000000000000000000000000000");
            hashIs(0, x, "00000000000000010000000000000000", "00000000000000008000000000000000");
        });
        Check.sentence("inward: x^127 times x is x^127 + x^126 + x^121 + 1", () -> {
            // Times the polynomial besides, this H is x.
            String x = "03000000000000000000000000000046";
            hashIs(1, x, "00000000000000000000000000000080", "010000000000000000000000000000c2");
            hashIs(1, x, "00000000000000000000000000000040", "00000000000000000000000000000080");
            hashIs(1, x, "80000000000000000000000000000000", "00010000000000000000000000000000");
            hashIs(1, x, "00000000000000800000000000000000", "00000000000000000100000000000000");
        });
        Check.sentence("inward: times x^127 + x^124 + x^121 + x^114 + 1 besides", () -> {
            String one = "01000000000000000000000000000000";
            hashIs(1, one, one, "01000000000000000000000000000492");
        });
        Check.sentence("every coefficient stands where it should", TermEdgesTest::everyCoefficient);
        Check.sentence("S is 0 at first, in each hash anew", TermEdgesTest::sumIsZeroAtFirst);
        Check.sentence("for each block S becomes the product of S ^ the block and H", TermEdgesTest::hashStepByStep);
        Check.sentence("a hash with H = 0 is 0", () -> {
            for (int way = 0; way < 2; way++) {
                Check.same("hash(" + way + ")", Check.hex(hashed(way, ZEROS, Held.of(0, 0, 0, 64, 0).row(3))),
                        Check.hex(ZEROS));
            }
        });
    }

    private static void everyCoefficient() {
        for (int way = 0; way < 2; way++) {
            for (int power = 0; power < 128; power++) {
                byte[] block = Reference.write(way, BigInteger.ONE.shiftLeft(power));
                hashIs(way, ONE[way], Check.hex(block), Check.hex(block));
                hashIs(way, Check.hex(block), ONE[way], Check.hex(block));
            }
        }
    }

    private static void sumIsZeroAtFirst() {
        Held held = Held.of(16, 12, 32, 48, 0);
        TwoSeals seals = held.object();
        for (int run = 0; run < 3; run++) {
            for (int way = 0; way < 2; way++) {
                seals.hash(way);
                Check.same("hash(" + way + ") again", Check.hexResult(seals),
                        Check.hex(Reference.hash(way, held.row(Check.KEY), held.row(Check.TEXT))));
                seals.seal(way);
            }
        }
    }

    private static void hashStepByStep() {
        Held held = Held.of(16, 0, 0, 64, 0);
        for (int way = 0; way < 2; way++) {
            byte[] s = ZEROS;
            for (int from = 0; from < 64; from += 16) {
                byte[] block = Arrays.copyOfRange(held.row(Check.TEXT), from, from + 16);
                s = hashed(way, held.row(Check.KEY), Reference.xor(s, block));
                Check.same("hash(" + way + ") of " + (from + 16),
                        Check.hex(hashed(way, held.row(Check.KEY), Arrays.copyOf(held.row(Check.TEXT), from + 16))),
                        Check.hex(s));
            }
        }
    }

    private static void padding() {
        Check.sentence("padded with bytes 0", TermEdgesTest::padsWithZeros);
        Check.sentence("with as few as make them whole blocks", TermEdgesTest::padsWithFew);
        Check.sentence("none for an empty one", TermEdgesTest::padsNothingForAnEmptyRow);
        Check.sentence("bytes that a row had are no padding", TermEdgesTest::padsNotWithOldBytes);
    }

    // With the one as H the hash is the sum of the blocks.
    private static void padsWithZeros() {
        byte[] whole = Held.of(0, 0, 0, 64, 0).row(Check.TEXT);
        for (int length = 0; length <= 64; length++) {
            byte[] sum = new byte[16];
            for (int i = 0; i < length; i++) {
                sum[i % 16] ^= whole[i];
            }
            for (int way = 0; way < 2; way++) {
                hashIs(way, ONE[way], Check.hex(Arrays.copyOf(whole, length)), Check.hex(sum));
            }
        }
    }

    private static void padsWithFew() {
        Held held = Held.of(16, 0, 0, 64, 0);
        byte[] key = held.row(Check.KEY);
        for (int length = 1; length <= 64; length++) {
            byte[] text = Arrays.copyOf(held.row(Check.TEXT), length);
            byte[] blocks = Arrays.copyOf(text, (length + 15) / 16 * 16);
            for (int way = 0; way < 2; way++) {
                Check.same("hash(" + way + ") of " + length, Check.hex(hashed(way, key, text)),
                        Check.hex(Reference.hash(way, key, blocks)));
            }
        }
    }

    // Behind a row that is not empty, a block of 0 too many would be one more product with H.
    private static void padsNothingForAnEmptyRow() {
        for (int length = 1; length <= 32; length++) {
            Held held = Held.of(16, 12, length, 0, 0);
            for (int way = 0; way < 2; way++) {
                byte[] blocks = Reference.joined(Reference.padded(held.row(Check.ASIDE)),
                        Reference.lengths(way, length, 0));
                Check.same("seal(" + way + ") with aside of " + length, Check.hex(hashBehindSeal(way, held)),
                        Check.hex(hashToSeal(way, held, blocks)));
            }
        }
        for (int way = 0; way < 2; way++) {
            Held held = Held.of(16, 12, 0, 0, 0);
            Check.same("seal(" + way + ") of nothing", Check.hex(hashBehindSeal(way, held)),
                    Check.hex(hashToSeal(way, held, new byte[16])));
            Check.same("hash(" + way + ") of nothing", Check.hex(hashed(way, held.row(Check.KEY), NOTHING)),
                    Check.hex(ZEROS));
        }
    }

    // The seal with its last step undone: ^ E(key, J) in way 0, E(G, ..) in way 1.
    private static byte[] hashBehindSeal(int way, Held held) {
        byte[] out = sealed(way, held.row(Check.KEY), held.row(Check.NONCE), held.row(Check.ASIDE),
                held.row(Check.TEXT));
        byte[] seal = Arrays.copyOfRange(out, out.length - 16, out.length);
        if (way == 1) {
            return Reference.decipher(Reference.derived(held.row(Check.KEY), held.row(Check.NONCE), 2), seal);
        }
        byte[] j = Reference.start(Reference.encipher(held.row(Check.KEY), ZEROS), held.row(Check.NONCE));
        return Reference.xor(seal, Reference.encipher(held.row(Check.KEY), j));
    }

    // What has to be found there, if these are the blocks that are hashed.
    private static byte[] hashToSeal(int way, Held held, byte[] blocks) {
        if (way == 0) {
            return Reference.hash(0, Reference.encipher(held.row(Check.KEY), ZEROS), blocks);
        }
        byte[] h = Reference.derived(held.row(Check.KEY), held.row(Check.NONCE), 0);
        byte[] hash = Reference.xor(Reference.hash(1, h, blocks), held.row(Check.NONCE));
        hash[15] &= 127;
        return hash;
    }

    private static void padsNotWithOldBytes() {
        for (int length = 1; length < 32; length++) {
            Held held = Held.of(16, 1 + length % 24, length, length, 0);
            for (int way = 0; way < 2; way++) {
                Held right = way == 0 ? held : held.with(Check.NONCE, Held.of(0, 12, 0, 0, 0).row(Check.NONCE));
                TwoSeals seals = Held.of(16, 24, 32, 64, 64).object();
                for (int row = 0; row < 4; row++) {
                    Check.fill(seals, row, right.row(row));
                }
                seals.seal(way);
                Check.same("seal(" + way + ") of " + length + " after longer rows", Check.hexResult(seals),
                        Check.hex(Reference.sealed(way, right.row(Check.KEY), right.row(Check.NONCE),
                                right.row(Check.ASIDE), right.row(Check.TEXT))));
            }
        }
    }

    private static void lengths() {
        Check.sentence("lengths outward, the highest byte first", () -> {
            lengthsAre(0, 0, 1, "0000000000000000 0000000000000008");
            lengthsAre(0, 1, 0, "0000000000000008 0000000000000000");
            lengthsAre(0, 31, 31, "00000000000000f8 00000000000000f8");
            lengthsAre(0, 32, 32, "0000000000000100 0000000000000100");
            lengthsAre(0, 32, 48, "0000000000000100 0000000000000180");
            lengthsAre(0, 5, 33, "0000000000000028 0000000000000108");
        });
        Check.sentence("lengths inward, the lowest byte first", () -> {
            lengthsAre(1, 0, 1, "0000000000000000 0800000000000000");
            lengthsAre(1, 1, 0, "0800000000000000 0000000000000000");
            lengthsAre(1, 31, 31, "f800000000000000 f800000000000000");
            lengthsAre(1, 32, 32, "0001000000000000 0001000000000000");
            lengthsAre(1, 32, 48, "0001000000000000 8001000000000000");
            lengthsAre(1, 5, 33, "2800000000000000 0801000000000000");
        });
    }

    private static void lengthsAre(int way, int aside, int text, String due) {
        Held held = Held.of(16, 12, aside, text, 0);
        byte[] out = sealed(way, held.row(Check.KEY), held.row(Check.NONCE), held.row(Check.ASIDE),
                held.row(Check.TEXT));
        byte[] hashedText = way == 0 ? Arrays.copyOf(out, text) : held.row(Check.TEXT);
        byte[] blocks = Reference.joined(Reference.padded(held.row(Check.ASIDE)), Reference.padded(hashedText),
                Check.bytes(due));
        Check.same("the hash with lengths " + due, Check.hex(hashBehindSeal(way, held)),
                Check.hex(hashToSeal(way, held, blocks)));
    }

    private static void wayZero() {
        Check.sentence("way 0: J is a nonce of 12 bytes and 0 0 0 1", () -> {
            for (int run = 0; run < 10; run++) {
                Held held = Held.of(16, 12, 0, run, run);
                Check.same("J", Check.hex(startSeen(held.row(Check.KEY), held.row(Check.NONCE))),
                        Check.hex(held.row(Check.NONCE)) + "00000001");
            }
        });
        Check.sentence("way 0: J after one of another nonce", TermEdgesTest::startsAfterOthers);
        Check.sentence("way 0: J of a nonce of another length is its hash", () -> {
            for (int length = 1; length <= 24; length++) {
                if (length != 12) {
                    startIsHashed(Held.of(16, length, 0, 0, 0));
                }
            }
        });
        Check.sentence("way 0: part k has k added, k = 1, 2, .., the highest byte first", () -> {
            countsInWayZero("00000000", "00000001", "00000002", "00000003");
            countsInWayZero("000000fe", "000000ff", "00000100", "00000101");
            countsInWayZero("0000fffd", "0000fffe", "0000ffff", "00010000");
            countsInWayZero("00ffffff", "01000000", "01000001", "01000002");
            countsInWayZero("7fffffff", "80000000", "80000001", "80000002");
            countsInWayZero("ff000000", "ff000001", "ff000002", "ff000003");
        });
        Check.sentence("way 0: modulo 2^32", () -> {
            countsInWayZero("fffffffc", "fffffffd", "fffffffe", "ffffffff");
            countsInWayZero("fffffffd", "fffffffe", "ffffffff", "00000000");
            countsInWayZero("fffffffe", "ffffffff", "00000000", "00000001");
            countsInWayZero("ffffffff", "00000000", "00000001", "00000002");
        });
        Check.sentence("way 0: the last part perhaps less", () -> {
            Held held = Held.of(16, 12, 3, 48, 0);
            String whole = Check.hex(ciphered(held, 48));
            for (int length = 0; length < 48; length++) {
                Check.same("ciphered " + length, Check.hex(ciphered(held, length)), whole.substring(0, 2 * length));
            }
        });
    }

    // The hash of nothing but lengths 0 is 0: that seal is E(key, J).
    private static byte[] startSeen(byte[] key, byte[] nonce) {
        return Reference.decipher(key, sealed(0, key, nonce, NOTHING, NOTHING));
    }

    private static void startsAfterOthers() {
        byte[] key = Held.of(16, 0, 0, 0, 0).row(Check.KEY);
        TwoSeals seals = Check.filled(key, NOTHING, NOTHING, NOTHING);
        for (int length : new int[] {24, 12, 1, 12, 16, 11, 12, 13, 12, 12}) {
            byte[] nonce = Held.of(0, length, 0, 0, 0).row(Check.NONCE);
            Check.fill(seals, Check.NONCE, nonce);
            seals.seal(0);
            Check.same("J of " + length, Check.hex(Reference.decipher(key, Check.result(seals))),
                    Check.hex(Reference.start(Reference.encipher(key, ZEROS), nonce)));
        }
    }

    private static void startIsHashed(Held held) {
        byte[] nonce = held.row(Check.NONCE);
        byte[] lengths = new byte[16];
        lengths[15] = (byte) (8 * nonce.length);
        byte[] h = Reference.encipher(held.row(Check.KEY), ZEROS);
        Check.same("J of " + nonce.length, Check.hex(startSeen(held.row(Check.KEY), nonce)),
                Check.hex(Reference.hash(0, h, Reference.joined(Reference.padded(nonce), lengths))));
    }

    private static byte[] ciphered(Held held, int length) {
        byte[] out = sealed(0, held.row(Check.KEY), held.row(Check.NONCE), held.row(Check.ASIDE),
                Arrays.copyOf(held.row(Check.TEXT), length));
        return Arrays.copyOf(out, length);
    }

    // J's last four bytes, and those of the blocks that the parts are ciphered with.
    private static void countsInWayZero(String last, String... due) {
        Held held = Held.of(16, 0, 3, 48, 0);
        byte[] key = held.row(Check.KEY);
        String first = "fffffffffffffffffffffffe";
        byte[] nonce = Wished.nonce(key, Check.bytes(first + last));
        Check.same("the J wished for", Check.hex(startSeen(key, nonce)), first + last);
        byte[] text = held.row(Check.TEXT);
        byte[] out = sealed(0, key, nonce, held.row(Check.ASIDE), text);
        for (int part = 0; part < 3; part++) {
            Check.same("part " + (part + 1) + " behind " + last, Check.hex(counterSeen(key, text, out, part)),
                    first + due[part]);
        }
        opensAgain(0, key, nonce, held.row(Check.ASIDE), text, out);
    }

    private static byte[] counterSeen(byte[] key, byte[] text, byte[] out, int part) {
        byte[] plain = Arrays.copyOfRange(text, 16 * part, 16 * part + 16);
        byte[] ciphered = Arrays.copyOfRange(out, 16 * part, 16 * part + 16);
        return Reference.decipher(key, Reference.xor(plain, ciphered));
    }

    private static void opensAgain(int way, byte[] key, byte[] nonce, byte[] aside, byte[] text, byte[] out) {
        TwoSeals seals = Check.filled(key, nonce, aside, out);
        Check.same("open(" + way + ")", seals.open(way), text.length);
        Check.same("the text opened", Check.hexResult(seals), Check.hex(text));
    }

    private static void wayOne() {
        Check.sentence("way 1: ^ the nonce in its first 12 bytes, & 127 in its last", TermEdgesTest::maskedHashes);
        Check.sentence("way 1: part k has k added, k = 0, 1, .., the lowest byte first", () -> {
            countsInWayOne("00000000", "00000000", "01000000", "02000000");
            countsInWayOne("fe000000", "fe000000", "ff000000", "00010000");
            countsInWayOne("ffff0000", "ffff0000", "00000100", "01000100");
            countsInWayOne("ffffff00", "ffffff00", "00000001", "01000001");
            countsInWayOne("ffffff7f", "ffffff7f", "00000080", "01000080");
            countsInWayOne("000000ff", "000000ff", "010000ff", "020000ff");
        });
        Check.sentence("way 1: modulo 2^32", () -> {
            countsInWayOne("fdffffff", "fdffffff", "feffffff", "ffffffff");
            countsInWayOne("feffffff", "feffffff", "ffffffff", "00000000");
            countsInWayOne("ffffffff", "ffffffff", "00000000", "01000000");
        });
        Check.sentence("way 1: the last part perhaps less", TermEdgesTest::lastPartsInWayOne);
        Check.sentence("way 1: the seal with its last byte | 128", TermEdgesTest::lastByteOfTheSeal);
    }

    private static void maskedHashes() {
        int masked = 0;
        for (int length = 0; length <= 48; length++) {
            Held held = Held.of(16, 12, length % 33, length, 0);
            byte[] blocks = Reference.joined(Reference.padded(held.row(Check.ASIDE)),
                    Reference.padded(held.row(Check.TEXT)), Reference.lengths(1, length % 33, length));
            byte[] hash = Reference.hash(1, Reference.derived(held.row(Check.KEY), held.row(Check.NONCE), 0), blocks);
            masked += hash[15] < 0 ? 1 : 0;
            String last = String.format("%02x", hash[15] & 127);
            String first = Check.hex(Reference.xor(Arrays.copyOf(hash, 12), held.row(Check.NONCE)));
            Check.same("what E(G, ..) makes the seal of", Check.hex(hashBehindSeal(1, held)),
                    first + Check.hex(Arrays.copyOfRange(hash, 12, 15)) + last);
        }
        Check.same("some of them had the bit, some had it not", masked > 5 && masked < 44, true);
    }

    // The seal's first four bytes, and those of the blocks that the parts are ciphered with.
    private static void countsInWayOne(String first, String... due) {
        Random random = new Random(first.hashCode());
        int found = 0;
        for (int run = 0; run < 200 && found < 4; run++) {
            byte[] key = Check.bytesOf(random, 16);
            byte[] nonce = Check.bytesOf(random, 12);
            String rest = (run % 2 == 0 ? "ffffffffffffffff" : "0000000000000000") + "12345678";
            byte[] seal = Check.bytes(first + rest);
            byte[] text = Wished.text(key, nonce, seal, random);
            if (text != null) {
                found++;
                countsBehind(seal, key, nonce, text, due);
            }
        }
        Check.same("seals found that begin with " + first, found, 4);
    }

    private static void countsBehind(byte[] seal, byte[] key, byte[] nonce, byte[] text, String[] due) {
        byte[] out = sealed(1, key, nonce, NOTHING, text);
        Check.same("the seal wished for", Check.hex(Arrays.copyOfRange(out, 48, 64)), Check.hex(seal));
        String rest = Check.hex(Arrays.copyOfRange(seal, 4, 15)) + String.format("%02x", seal[15] & 255 | 128);
        byte[] g = Reference.derived(key, nonce, 2);
        for (int part = 0; part < 3; part++) {
            Check.same("part " + part, Check.hex(counterSeen(g, text, out, part)), due[part] + rest);
        }
        opensAgain(1, key, nonce, NOTHING, text, out);
    }

    private static void lastPartsInWayOne() {
        for (int length = 1; length <= 48; length++) {
            Held held = Held.of(16, 12, 3, length, 0);
            byte[] out = sealed(1, held.row(Check.KEY), held.row(Check.NONCE), held.row(Check.ASIDE),
                    held.row(Check.TEXT));
            byte[] seal = Arrays.copyOfRange(out, length, length + 16);
            Check.same("ciphered " + length, Check.hex(Arrays.copyOf(out, length)),
                    Check.hex(Reference.cipheredBySeal(held.row(Check.KEY), held.row(Check.NONCE), seal,
                            held.row(Check.TEXT))));
        }
    }

    private static void lastByteOfTheSeal() {
        int had = 0;
        for (int run = 0; run < 32; run++) {
            Held held = Held.of(16, 12, run, 16, 0);
            byte[] text = held.row(Check.TEXT);
            byte[] out = sealed(1, held.row(Check.KEY), held.row(Check.NONCE), held.row(Check.ASIDE), text);
            byte[] g = Reference.derived(held.row(Check.KEY), held.row(Check.NONCE), 2);
            had += out[31] < 0 ? 1 : 0;
            Check.same("the last byte of the counted block", counterSeen(g, text, out, 0)[15] & 255,
                    out[31] & 255 | 128);
        }
        Check.same("some seals had the bit, some had it not", had > 3 && had < 29, true);
    }

    // One object is refused everything that it can be, one call behind the other.
    private static void refusedCallsChangeNothing() {
        Ask[] always = {Ask.type(-1, 1L, 1), Ask.type(4, 1L, 1), Ask.type(0, 1L, 0), Ask.type(1, 1L, 9),
            Ask.clear(-1), Ask.clear(4), Ask.poke(4, 0, 1), Ask.poke(3, 0, 256), Ask.poke(2, 0, -1),
            Ask.poke(0, 16, 1), Ask.poke(1, -1, 1), Ask.take(-1), Ask.take(4), Ask.hash(2), Ask.hash(-1),
            Ask.seal(2), Ask.seal(-1), Ask.open(2), Ask.open(-1), Ask.at(-1), Ask.at(64)};
        Ask[] whenFull = {Ask.type(0, 1L, 1), Ask.type(1, 1L, 8), Ask.type(2, 1L, 1), Ask.type(3, 1L, 8),
            Ask.take(0), Ask.take(1), Ask.take(2), Ask.block(), Ask.seal(0), Ask.seal(1), Ask.open(0), Ask.open(1)};
        Ask[] whenShort = {Ask.type(0, 1L, 2), Ask.block(), Ask.hash(0), Ask.hash(1), Ask.seal(0), Ask.seal(1),
            Ask.open(0), Ask.open(1), Ask.at(49), Ask.poke(2, 0, 1)};
        refusesAll(Held.of(16, 24, 32, 64, 64), always, whenFull);
        refusesAll(Held.of(15, 11, 0, 15, 49), always, whenShort);
    }

    private static void refusesAll(Held held, Ask[]... refused) {
        TwoSeals seals = held.object();
        for (Ask[] asks : refused) {
            for (Ask ask : asks) {
                String outcome = Check.outcome(() -> ask.call().apply(seals));
                Check.same(ask.name() + " is refused", outcome.startsWith("throws "), true);
            }
        }
        held.isIn("after all refusals", seals);
    }

    private static void answersTheLastCall() {
        Held held = Held.of(16, 12, 5, 20, 0);
        TwoSeals seals = new TwoSeals();
        int used = 0;
        for (int row = 0; row < 4; row++) {
            for (byte b : held.row(row)) {
                seals.type(row, b, 1);
                used++;
            }
        }
        byte[] due = Reference.sealed(1, held.row(Check.KEY), held.row(Check.NONCE), held.row(Check.ASIDE),
                held.row(Check.TEXT));
        while (used + due.length < 512) {
            Check.same("call " + used, seals.seal(1), due.length);
            used++;
        }
        for (int i = 0; i < due.length; i++) {
            Check.same("call " + (used + i) + ", at(" + i + ")", seals.at(i), due[i] & 255);
        }
        Check.same("calls", used + due.length, 512);
    }
}
