import java.util.Arrays;
import java.util.Random;

/** Promise 7: hash. */
final class HashTest {
    private HashTest() {
    }

    public static void main(String[] args) {
        publishedHashes();
        hashesOfSinglePowers();
        hashesOfEveryLength();
        staleBytesArePaddedAway();
        refusals();
        Check.end();
    }

    private static void hashes(int way, String key, String text, String due) {
        TwoSeals seals = Check.filled(Check.bytes(key), new byte[0], new byte[0], Check.bytes(text));
        seals.hash(way);
        Check.same("hash(" + way + ") of " + text, Check.hexResult(seals), due);
    }

    // The appendix A of RFC 8452 has both ways; the GCM paper's test case 2 the other outward one.
    private static void publishedHashes() {
        String text = "4f4f95668c83dfb6401762bb2d01a262 d1a24ddd2721d006bbe45f20d3c9f362";
        hashes(1, "25629347589242761d31f826ba4b757b", text, "f7a3b47b846119fae5b7866cf5e5b77e");
        hashes(0, "25629347589242761d31f826ba4b757b", text, "bd9b3997046731fb96251b91f9c99d7a");
        hashes(0, "66e94bd4ef8a2c3b884cfa59ca342b2e",
                "0388dace60b6a392f328c2b971b2fe78 00000000000000000000000000000080",
                "f38cbb1ad69223dcc3457ae5b6b0f885");
        hashes(0, "66e94bd4ef8a2c3b884cfa59ca342b2e", "", "00000000000000000000000000000000");
        hashes(1, "66e94bd4ef8a2c3b884cfa59ca342b2e", "", "00000000000000000000000000000000");
    }

    private static void comparesWithReference(int way, byte[] key, byte[] text) {
        TwoSeals seals = Check.filled(key, new byte[0], new byte[0], text);
        seals.hash(way);
        Check.same("hash(" + way + ") of " + text.length, Check.hexResult(seals),
                Check.hex(Reference.hash(way, key, Reference.padded(text))));
    }

    private static void hashesOfSinglePowers() {
        for (int way = 0; way < 2; way++) {
            for (int i = 0; i < 128; i++) {
                byte[] key = new byte[16];
                byte[] text = new byte[16];
                key[i / 8] = (byte) (1 << i % 8);
                text[15 - i / 16] = (byte) 0x81;
                comparesWithReference(way, key, text);
                comparesWithReference(way, text, key);
            }
        }
    }

    private static void hashesOfEveryLength() {
        Random random = new Random(7);
        byte[] key = new byte[16];
        for (int length = 0; length <= 64; length++) {
            byte[] text = new byte[length];
            random.nextBytes(key);
            random.nextBytes(text);
            comparesWithReference(0, key, text);
            comparesWithReference(1, key, text);
        }
    }

    private static void staleBytesArePaddedAway() {
        byte[] key = Check.bytes("66e94bd4ef8a2c3b884cfa59ca342b2e");
        byte[] full = new byte[64];
        Arrays.fill(full, (byte) 255);
        for (int way = 0; way < 2; way++) {
            for (int length = 0; length < 64; length++) {
                byte[] text = new byte[length];
                TwoSeals seals = Check.filled(key, new byte[0], new byte[0], full);
                Check.fill(seals, Check.TEXT, text);
                seals.hash(way);
                Check.same("hash of " + length + " after 64", Check.hexResult(seals),
                        Check.hex(Reference.hash(way, key, Reference.padded(text))));
            }
        }
    }

    private static void refusals() {
        TwoSeals seals = Check.filled(new byte[16], new byte[0], new byte[0], new byte[16]);
        seals.block();
        String before = Check.hexResult(seals);
        for (int way : new int[] {-1, 2, Integer.MIN_VALUE, Integer.MAX_VALUE}) {
            Check.throwing("hash(" + way + ")", IllegalArgumentException.class, () -> seals.hash(way));
        }
        for (int length = 0; length < 16; length++) {
            Check.fill(seals, Check.KEY, new byte[length]);
            Check.throwing("hash(0), key of " + length, IllegalStateException.class, () -> seals.hash(0));
            Check.throwing("hash(1), key of " + length, IllegalStateException.class, () -> seals.hash(1));
            Check.throwing("hash(2), key of " + length, IllegalArgumentException.class, () -> seals.hash(2));
        }
        Check.same("the result after refused hashes", Check.hexResult(seals), before);
    }
}
