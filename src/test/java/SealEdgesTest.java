import java.util.Arrays;

/** Promises 6 to 9 at their edges, a test for each sentence of the document that names one. */
final class SealEdgesTest {
    private static final int[] NO_WAYS = {-1, 2, 3, 256, Integer.MIN_VALUE, Integer.MAX_VALUE};
    private static final byte[] NOTHING = new byte[0];

    private SealEdgesTest() {
    }

    public static void main(String[] args) {
        promiseSix();
        promiseSeven();
        promiseEight();
        promiseNine();
        Check.end();
    }

    private static void promiseSix() {
        Check.sentence("6: the result is E(key, the text)", SealEdgesTest::enciphersOverEveryResult);
        Check.sentence("6: the key has not 16 bytes", () -> {
            for (int length = 0; length < 16; length++) {
                Held.of(length, 12, 3, 16, 20).refuses(Ask.block(), IllegalStateException.class);
            }
        });
        Check.sentence("6: the text has not 16 bytes", () -> {
            for (int length = 0; length <= 64; length++) {
                if (length != 16) {
                    Held.of(16, 12, 3, length, 20).refuses(Ask.block(), IllegalStateException.class);
                }
            }
        });
        Check.sentence("6: neither has 16 bytes", () -> {
            Held.of(0, 0, 0, 0, 0).refuses(Ask.block(), IllegalStateException.class);
            Held.of(15, 24, 32, 17, 64).refuses(Ask.block(), IllegalStateException.class);
            Held.of(15, 24, 32, 15, 64).refuses(Ask.block(), IllegalStateException.class);
        });
        Check.sentence("6: nonce and aside are free", () -> {
            Held empty = Held.of(16, 0, 0, 16, 0);
            empty.answers(Ask.block(), "done", enciphered(empty));
            Held full = Held.of(16, 24, 32, 16, 0);
            full.answers(Ask.block(), "done", enciphered(full));
        });
    }

    private static Held enciphered(Held held) {
        return held.withResult(Reference.encipher(held.row(Check.KEY), held.row(Check.TEXT)));
    }

    private static void enciphersOverEveryResult() {
        for (int length : new int[] {0, 1, 15, 16, 17, 48, 64}) {
            Held held = Held.of(16, 12, 3, 16, length);
            held.answers(Ask.block(), "done", enciphered(held));
        }
    }

    private static void promiseSeven() {
        Check.sentence("7: the hash of the text, outward", () -> hashesEveryLength(0));
        Check.sentence("7: the hash of the text, inward", () -> hashesEveryLength(1));
        Check.sentence("7: an empty text hashes to 16 bytes of 0", () -> {
            for (int way = 0; way < 2; way++) {
                Held held = Held.of(16, 12, 3, 0, 64);
                held.answers(Ask.hash(way), "done", held.withResult(new byte[16]));
            }
        });
        Check.sentence("7: way is not 0 or 1", () -> {
            for (int way : NO_WAYS) {
                Held.of(16, 12, 3, 20, 20).refuses(Ask.hash(way), IllegalArgumentException.class);
            }
        });
        Check.sentence("7: the key has not 16 bytes", () -> {
            for (int length = 0; length < 16; length++) {
                Held.of(length, 12, 3, 16, 20).refuses(Ask.hash(0), IllegalStateException.class);
                Held.of(length, 12, 3, 16, 20).refuses(Ask.hash(1), IllegalStateException.class);
                Held.of(length, 12, 3, 0, 20).refuses(Ask.hash(length % 2), IllegalStateException.class);
            }
        });
        Check.sentence("7: nonce and aside are free", () -> {
            hashes(0, Held.of(16, 0, 0, 33, 0));
            hashes(1, Held.of(16, 24, 32, 33, 0));
        });
        Check.sentence("7, Terms: of several exceptions the first", () -> {
            for (int way : NO_WAYS) {
                Held.of(0, 0, 0, 0, 0).refuses(Ask.hash(way), IllegalArgumentException.class);
                Held.of(15, 12, 3, 20, 20).refuses(Ask.hash(way), IllegalArgumentException.class);
            }
        });
    }

    private static void hashes(int way, Held held) {
        byte[] due = Reference.hash(way, held.row(Check.KEY), Reference.padded(held.row(Check.TEXT)));
        held.answers(Ask.hash(way), "done", held.withResult(due));
    }

    private static void hashesEveryLength(int way) {
        for (int length = 0; length <= 64; length++) {
            hashes(way, Held.of(16, 12, 3, length, length));
        }
    }

    private static void promiseEight() {
        for (int w = 0; w < 2; w++) {
            int way = w;
            String words = "8, way " + way + ": ";
            Check.sentence(words + "texts of 0 .. 48 bytes", () -> sealsEveryText(way));
            Check.sentence(words + "aside of 0 .. 32 bytes", () -> sealsEveryAside(way));
            Check.sentence(words + "the text has more than 48 bytes", () -> {
                for (int length = 49; length <= 64; length++) {
                    Held.of(16, 12, 3, length, 20).refuses(Ask.seal(way), IllegalStateException.class);
                }
            });
            Check.sentence(words + "the key is not as the way wants it", () -> refusesKeys(Ask.seal(way), 20));
        }
        Check.sentence("8, way 0: a nonce of at least one byte", () -> {
            for (int length = 1; length <= 24; length++) {
                seals(0, Held.of(16, length, 3, 20, length));
            }
        });
        Check.sentence("8, way 0: an empty nonce", () -> {
            Held.of(16, 0, 3, 20, 20).refuses(Ask.seal(0), IllegalStateException.class);
            Held.of(16, 0, 0, 0, 0).refuses(Ask.seal(0), IllegalStateException.class);
        });
        Check.sentence("8, way 1: a nonce of 12 bytes", () -> seals(1, Held.of(16, 12, 3, 20, 64)));
        Check.sentence("8, way 1: a nonce that has not 12 bytes", () -> refusesNonces(Ask.seal(1), 20));
        Check.sentence("8: way is not 0 or 1", () -> refusesWays(Held.of(16, 12, 3, 20, 20)));
        Check.sentence("8, Terms: of several exceptions the first", () -> {
            refusesWays(Held.of(0, 0, 0, 0, 0));
            refusesWays(Held.of(15, 12, 3, 20, 20));
            refusesWays(Held.of(16, 0, 3, 20, 20));
            refusesWays(Held.of(16, 12, 3, 49, 20));
        });
    }

    private static void refusesWays(Held held) {
        for (int way : NO_WAYS) {
            held.refuses(Ask.seal(way), IllegalArgumentException.class);
        }
    }

    private static void refusesKeys(Ask ask, int text) {
        for (int length = 0; length < 16; length++) {
            Held.of(length, 12, 3, text, 20).refuses(ask, IllegalStateException.class);
        }
    }

    private static void refusesNonces(Ask ask, int text) {
        for (int length = 0; length <= 24; length++) {
            if (length != 12) {
                Held.of(16, length, 3, text, 20).refuses(ask, IllegalStateException.class);
            }
        }
    }

    private static byte[] sealedOf(int way, Held held) {
        return Reference.sealed(way, held.row(Check.KEY), held.row(Check.NONCE), held.row(Check.ASIDE),
                held.row(Check.TEXT));
    }

    private static void seals(int way, Held held) {
        byte[] due = sealedOf(way, held);
        held.answers(Ask.seal(way), held.row(Check.TEXT).length + 16, held.withResult(due));
    }

    private static void sealsEveryText(int way) {
        for (int length = 0; length <= 48; length++) {
            seals(way, Held.of(16, 12, 0, length, 0));
            seals(way, Held.of(16, 12, 32, length, 64));
        }
    }

    private static void sealsEveryAside(int way) {
        for (int length = 0; length <= 32; length++) {
            seals(way, Held.of(16, 12, length, 0, 0));
            seals(way, Held.of(16, 12, length, 48, 64));
        }
    }

    private static void promiseNine() {
        for (int w = 0; w < 2; w++) {
            int way = w;
            String words = "9, way " + way + ": ";
            Check.sentence(words + "sealed texts of 16 .. 64 bytes", () -> opensEveryText(way));
            Check.sentence(words + "a seal alone opens to an empty text", () -> opensASealAlone(way));
            Check.sentence(words + "the text has fewer than 16 bytes", () -> {
                for (int length = 0; length < 16; length++) {
                    Held.of(16, 12, 3, length, 20).refuses(Ask.open(way), IllegalStateException.class);
                }
            });
            Check.sentence(words + "the key is not as the way wants it", () -> refusesKeys(Ask.open(way), 40));
            Check.sentence(words + "another bit in the seal", () -> refusesOtherBits(way, 20, 36));
            Check.sentence(words + "another bit in the seal of an empty text", () -> refusesOtherBits(way, 0, 16));
            Check.sentence(words + "the same bit in two bytes of the seal", () -> refusesPairs(way));
            Check.sentence(words + "the seal's bytes in another order", () -> refusesOtherOrders(way));
            Check.sentence(words + "another bit in the ciphered text", () -> refusesOtherBits(way, 0, 20));
            Check.sentence(words + "the seal of another key, nonce or aside", () -> refusesOtherRows(way));
            Check.sentence(words + "the seal of aside with a byte 0 more", () -> refusesLongerAside(way));
            Check.sentence(words + "a ciphered text cut short or made longer", () -> refusesOtherLengths(way));
            Check.sentence(words + "the seal of the other way", () -> refusesTheOtherWay(way));
        }
        Check.sentence("9, way 0: a nonce of at least one byte", () -> {
            for (int length = 1; length <= 24; length++) {
                opens(0, Held.of(16, length, 3, 20, length));
            }
        });
        Check.sentence("9, way 0: an empty nonce", () ->
                Held.of(16, 0, 3, 40, 20).refuses(Ask.open(0), IllegalStateException.class));
        Check.sentence("9, way 1: a nonce that has not 12 bytes", () -> refusesNonces(Ask.open(1), 40));
        Check.sentence("9: way is not 0 or 1", () -> refusesWaysInOpen(sealedText(0, Held.of(16, 12, 3, 20, 20))));
        Check.sentence("9, Terms: of several exceptions the first", SealEdgesTest::firstExceptionOfOpen);
    }

    /** The same, but the text is sealed already. */
    private static Held sealedText(int way, Held held) {
        return held.with(Check.TEXT, sealedOf(way, held));
    }

    private static void opens(int way, Held held) {
        byte[] text = held.row(Check.TEXT);
        Held before = sealedText(way, held);
        before.answers(Ask.open(way), text.length, before.withResult(text));
    }

    private static void opensEveryText(int way) {
        for (int length = 0; length <= 48; length++) {
            opens(way, Held.of(16, 12, 0, length, 0));
            opens(way, Held.of(16, 12, 32, length, 64));
        }
    }

    private static void opensASealAlone(int way) {
        Held before = sealedText(way, Held.of(16, 12, 3, 0, 64));
        Check.same("length of a seal alone", before.row(Check.TEXT).length, 16);
        before.answers(Ask.open(way), 0, before.withResult(NOTHING));
    }

    private static void refusesSeal(int way, Held held) {
        held.refuses(Ask.open(way), UnsupportedOperationException.class);
    }

    private static Held turned(Held held, int row, int bit) {
        byte[] bytes = held.row(row);
        bytes[bit / 8] ^= (byte) (1 << bit % 8);
        return held.with(row, bytes);
    }

    // Of a sealed text of 20 and 16 bytes, or of 0 and 16, those from .. to - 1 are turned.
    private static void refusesOtherBits(int way, int from, int to) {
        int length = to == 16 ? 0 : 20;
        Held held = sealedText(way, Held.of(16, 12, 3, length, 20));
        for (int bit = 8 * from; bit < 8 * to; bit++) {
            refusesSeal(way, turned(held, Check.TEXT, bit));
        }
    }

    private static void refusesPairs(int way) {
        Held held = sealedText(way, Held.of(16, 12, 3, 20, 20));
        for (int one = 20; one < 36; one++) {
            for (int other = one + 1; other < 36; other++) {
                int bit = (one + other) % 8;
                refusesSeal(way, turned(turned(held, Check.TEXT, 8 * one + bit), Check.TEXT, 8 * other + bit));
            }
        }
    }

    private static void refusesOtherOrders(int way) {
        Held held = sealedText(way, Held.of(16, 12, 3, 20, 20));
        byte[] sealed = held.row(Check.TEXT);
        byte[] backwards = sealed.clone();
        byte[] turnedRound = sealed.clone();
        for (int j = 0; j < 16; j++) {
            backwards[20 + j] = sealed[35 - j];
            turnedRound[20 + j] = sealed[20 + (j + 1) % 16];
        }
        refusesSeal(way, held.with(Check.TEXT, backwards));
        refusesSeal(way, held.with(Check.TEXT, turnedRound));
    }

    private static void refusesOtherRows(int way) {
        Held held = sealedText(way, Held.of(16, 12, 17, 20, 20));
        for (int row = 0; row < 3; row++) {
            for (int i = 0; i < held.row(row).length; i++) {
                refusesSeal(way, turned(held, row, 8 * i + i % 8));
            }
        }
    }

    // Padded they are the same: the lengths tell them apart.
    private static void refusesLongerAside(int way) {
        for (int length : new int[] {0, 1, 15, 17, 31}) {
            Held held = sealedText(way, Held.of(16, 12, length, 20, 20));
            refusesSeal(way, held.with(Check.ASIDE, Arrays.copyOf(held.row(Check.ASIDE), length + 1)));
        }
    }

    private static void refusesOtherLengths(int way) {
        Held held = sealedText(way, Held.of(16, 12, 3, 20, 20));
        byte[] sealed = held.row(Check.TEXT);
        refusesSeal(way, held.with(Check.TEXT, Arrays.copyOfRange(sealed, 1, 36)));
        refusesSeal(way, held.with(Check.TEXT, Arrays.copyOfRange(sealed, 20, 36)));
        refusesSeal(way, held.with(Check.TEXT, Arrays.copyOf(sealed, 35)));
        refusesSeal(way, held.with(Check.TEXT, Arrays.copyOf(sealed, 16)));
        refusesSeal(way, held.with(Check.TEXT, Arrays.copyOf(sealed, 37)));
        refusesSeal(way, held.with(Check.TEXT, Arrays.copyOf(sealed, 64)));
    }

    private static void refusesTheOtherWay(int way) {
        for (int length : new int[] {0, 1, 16, 48}) {
            refusesSeal(way, sealedText(1 - way, Held.of(16, 12, 3, length, 20)));
        }
    }

    private static void refusesWaysInOpen(Held held) {
        for (int way : NO_WAYS) {
            held.refuses(Ask.open(way), IllegalArgumentException.class);
        }
    }

    private static void firstExceptionOfOpen() {
        refusesWaysInOpen(Held.of(0, 0, 0, 0, 0));
        refusesWaysInOpen(Held.of(15, 12, 3, 40, 20));
        refusesWaysInOpen(Held.of(16, 0, 3, 40, 20));
        refusesWaysInOpen(Held.of(16, 12, 3, 15, 20));
        refusesWaysInOpen(Held.of(16, 12, 3, 40, 20));
        // The texts of these are no sealed ones, and yet that is not what is told.
        for (int way = 0; way < 2; way++) {
            Held.of(15, 12, 3, 40, 20).refuses(Ask.open(way), IllegalStateException.class);
            Held.of(16, 0, 3, 40, 20).refuses(Ask.open(way), IllegalStateException.class);
            Held.of(16, 12, 3, 15, 20).refuses(Ask.open(way), IllegalStateException.class);
            refusesSeal(way, Held.of(16, 12, 3, 40, 20));
        }
        Held.of(16, 13, 3, 40, 20).refuses(Ask.open(1), IllegalStateException.class);
    }
}
