import java.util.Random;

/** Promise 6: block. */
final class BlockTest {
    private BlockTest() {
    }

    public static void main(String[] args) {
        publishedBlocks();
        everyByteGoesThroughTheBox();
        chainedBlocks();
        refusals();
        Check.end();
    }

    private static void enciphers(String key, String text, String due) {
        TwoSeals seals = Check.filled(Check.bytes(key), new byte[0], new byte[0], Check.bytes(text));
        seals.block();
        Check.same("block of " + text, Check.hexResult(seals), due);
    }

    // FIPS 197, appendices B and C.1; SP 800-38A, F.1.1.
    private static void publishedBlocks() {
        enciphers("2b7e151628aed2a6abf7158809cf4f3c", "3243f6a8885a308d313198a2e0370734",
                "3925841d02dc09fbdc118597196a0b32");
        enciphers("000102030405060708090a0b0c0d0e0f", "00112233445566778899aabbccddeeff",
                "69c4e0d86a7b0430d8cdb78070b4c55a");
        enciphers("2b7e151628aed2a6abf7158809cf4f3c", "6bc1bee22e409f96e93d7e117393172a",
                "3ad77bb40d7a3660a89ecaf32466ef97");
        enciphers("00000000000000000000000000000000", "00000000000000000000000000000000",
                "66e94bd4ef8a2c3b884cfa59ca342b2e");
    }

    private static void everyByteGoesThroughTheBox() {
        for (int v = 0; v < 256; v++) {
            byte[] key = new byte[16];
            byte[] text = new byte[16];
            text[v % 16] = (byte) v;
            TwoSeals seals = Check.filled(key, new byte[0], new byte[0], text);
            seals.block();
            Check.same("block with " + v, Check.hexResult(seals), Check.hex(Reference.encipher(key, text)));
        }
    }

    private static void chainedBlocks() {
        Random random = new Random(6);
        byte[] key = new byte[16];
        byte[] text = new byte[16];
        for (int run = 0; run < 30; run++) {
            random.nextBytes(key);
            random.nextBytes(text);
            TwoSeals seals = Check.filled(key, new byte[0], new byte[0], text);
            for (int step = 0; step < 20; step++) {
                seals.block();
                seals.take(Check.TEXT);
                text = Reference.encipher(key, text);
                Check.same("chained block " + step, Check.hexResult(seals), Check.hex(text));
            }
        }
    }

    private static void refusals() {
        for (int length = 0; length <= 64; length++) {
            if (length != 16) {
                refuses(Check.TEXT, length);
            }
        }
        for (int length = 0; length < 16; length++) {
            refuses(Check.KEY, length);
        }
    }

    private static void refuses(int row, int length) {
        TwoSeals seals = Check.filled(new byte[16], new byte[0], new byte[0], new byte[16]);
        seals.block();
        String before = Check.hexResult(seals);
        Check.fill(seals, row, new byte[length]);
        Check.throwing("block, row " + row + " of " + length, IllegalStateException.class, seals::block);
        Check.same("the result after a refused block", Check.hexResult(seals), before);
    }
}
