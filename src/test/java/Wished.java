import java.math.BigInteger;
import java.util.Arrays;
import java.util.Random;

/** Rows that lead to a J or a seal that a test wishes for: the hashes are undone. */
final class Wished {
    private Wished() {
    }

    /** The nonce of 16 bytes for this J, in way 0. */
    static byte[] nonce(byte[] key, byte[] j) {
        BigInteger h = Reference.read(0, Reference.encipher(key, new byte[16]));
        BigInteger s = Reference.quotient(0, Reference.read(0, j), h);
        s = s.xor(Reference.read(0, Reference.lengths(0, 0, 16)));
        return Reference.write(0, Reference.quotient(0, s, h));
    }

    /** A text of 48 bytes with this seal and an empty aside, in way 1; null if no text has it. */
    static byte[] text(byte[] key, byte[] nonce, byte[] seal, Random random) {
        byte[] hash = Reference.decipher(Reference.derived(key, nonce, 2), seal);
        if (hash[15] < 0) {
            return null;
        }
        return textWithHash(Reference.derived(key, nonce, 0), Reference.xor(hash, nonce), random);
    }

    private static byte[] textWithHash(byte[] h, byte[] hash, Random random) {
        byte[] rest = Check.bytesOf(random, 32);
        byte[][] behind = {
            Reference.lengths(1, 0, 48), Arrays.copyOfRange(rest, 16, 32), Arrays.copyOf(rest, 16)};
        BigInteger s = Reference.quotient(1, Reference.read(1, hash), Reference.read(1, h));
        for (byte[] block : behind) {
            s = Reference.quotient(1, s.xor(Reference.read(1, block)), Reference.read(1, h));
        }
        return Reference.joined(Reference.write(1, s), rest);
    }
}
