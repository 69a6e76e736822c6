import java.math.BigInteger;
import java.security.GeneralSecurityException;
import java.util.Arrays;
import javax.crypto.Cipher;
import javax.crypto.spec.SecretKeySpec;

/** The document's terms once more, over the Java library: its AES, and polynomials as BigIntegers. */
final class Reference {
    private static final BigInteger OUTWARD = polynomial(128, 7, 2, 1, 0);
    private static final BigInteger INWARD = polynomial(128, 127, 126, 121, 0);
    private static final BigInteger BESIDES = polynomial(127, 124, 121, 114, 0);

    private Reference() {
    }

    private static BigInteger polynomial(int... powers) {
        BigInteger p = BigInteger.ZERO;
        for (int power : powers) {
            p = p.setBit(power);
        }
        return p;
    }

    static byte[] encipher(byte[] key, byte[] block) {
        return aes(Cipher.ENCRYPT_MODE, key, block);
    }

    static byte[] decipher(byte[] key, byte[] block) {
        return aes(Cipher.DECRYPT_MODE, key, block);
    }

    private static byte[] aes(int mode, byte[] key, byte[] block) {
        try {
            Cipher cipher = Cipher.getInstance("AES/ECB/NoPadding");
            cipher.init(mode, new SecretKeySpec(key, "AES"));
            return cipher.doFinal(block);
        } catch (GeneralSecurityException e) {
            throw new AssertionError(e);
        }
    }

    static BigInteger read(int way, byte[] block) {
        BigInteger p = BigInteger.ZERO;
        for (int i = 0; i < 128; i++) {
            int bit = way == 0 ? 7 - i % 8 : i % 8;
            if ((block[i / 8] >> bit & 1) != 0) {
                p = p.setBit(i);
            }
        }
        return p;
    }

    static byte[] write(int way, BigInteger p) {
        byte[] block = new byte[16];
        for (int i = 0; i < 128; i++) {
            if (p.testBit(i)) {
                block[i / 8] |= (byte) (1 << (way == 0 ? 7 - i % 8 : i % 8));
            }
        }
        return block;
    }

    static BigInteger product(int way, BigInteger a, BigInteger b) {
        BigInteger modulus = way == 0 ? OUTWARD : INWARD;
        BigInteger p = rest(times(a, b), modulus);
        return way == 0 ? p : rest(times(p, BESIDES), modulus);
    }

    private static BigInteger times(BigInteger a, BigInteger b) {
        BigInteger p = BigInteger.ZERO;
        for (int i = 0; i < b.bitLength(); i++) {
            if (b.testBit(i)) {
                p = p.xor(a.shiftLeft(i));
            }
        }
        return p;
    }

    private static BigInteger rest(BigInteger p, BigInteger modulus) {
        while (p.bitLength() > 128) {
            p = p.xor(modulus.shiftLeft(p.bitLength() - 129));
        }
        return p;
    }

    /** The q with product(q, h) = p, for h other than 0. */
    static BigInteger quotient(int way, BigInteger p, BigInteger h) {
        BigInteger modulus = way == 0 ? OUTWARD : INWARD;
        BigInteger divisor = way == 0 ? h : rest(times(h, BESIDES), modulus);
        // In a field of 2^128 the inverse is the power 2^128 - 2.
        BigInteger inverse = BigInteger.ONE;
        BigInteger square = divisor;
        for (int k = 1; k < 128; k++) {
            square = rest(times(square, square), modulus);
            inverse = rest(times(inverse, square), modulus);
        }
        return rest(times(p, inverse), modulus);
    }

    static byte[] hash(int way, byte[] h, byte[] blocks) {
        BigInteger key = read(way, h);
        BigInteger s = BigInteger.ZERO;
        for (int from = 0; from < blocks.length; from += 16) {
            byte[] block = Arrays.copyOfRange(blocks, from, from + 16);
            s = product(way, s.xor(read(way, block)), key);
        }
        return write(way, s);
    }

    static byte[] padded(byte[] row) {
        return Arrays.copyOf(row, (row.length + 15) / 16 * 16);
    }

    static byte[] joined(byte[]... parts) {
        int length = 0;
        for (byte[] part : parts) {
            length += part.length;
        }
        byte[] all = new byte[length];
        int from = 0;
        for (byte[] part : parts) {
            System.arraycopy(part, 0, all, from, part.length);
            from += part.length;
        }
        return all;
    }

    static byte[] lengths(int way, int a, int b) {
        byte[] block = new byte[16];
        for (int j = 0; j < 8; j++) {
            int place = way == 0 ? 7 - j : j;
            block[place] = (byte) (8L * a >>> 8 * j);
            block[8 + place] = (byte) (8L * b >>> 8 * j);
        }
        return block;
    }

    static byte[] xor(byte[] a, byte[] b) {
        byte[] sum = a.clone();
        for (int i = 0; i < Math.min(a.length, b.length); i++) {
            sum[i] ^= b[i];
        }
        return sum;
    }

    static byte[] start(byte[] h, byte[] nonce) {
        if (nonce.length == 12) {
            return joined(nonce, new byte[] {0, 0, 0, 1});
        }
        return hash(0, h, joined(padded(nonce), lengths(0, 0, nonce.length)));
    }

    private static byte[] counted(int way, byte[] block, int k) {
        byte[] counted = block.clone();
        for (int t = 0; t < k; t++) {
            boolean carry = true;
            for (int j = 0; j < 4 && carry; j++) {
                int place = way == 0 ? 15 - j : j;
                counted[place]++;
                carry = counted[place] == 0;
            }
        }
        return counted;
    }

    static byte[] ciphered(int way, byte[] key, byte[] block, byte[] text) {
        byte[] out = new byte[0];
        for (int from = 0; from < text.length; from += 16) {
            byte[] part = Arrays.copyOfRange(text, from, Math.min(text.length, from + 16));
            int k = from / 16 + (way == 0 ? 1 : 0);
            out = joined(out, xor(part, encipher(key, counted(way, block, k))));
        }
        return out;
    }

    static byte[] derived(byte[] key, byte[] nonce, int i) {
        byte[] p0 = encipher(key, joined(new byte[] {(byte) i, 0, 0, 0}, nonce));
        byte[] p1 = encipher(key, joined(new byte[] {(byte) (i + 1), 0, 0, 0}, nonce));
        return joined(Arrays.copyOf(p0, 8), Arrays.copyOf(p1, 8));
    }

    static byte[] sealed(int way, byte[] key, byte[] nonce, byte[] aside, byte[] text) {
        return way == 0 ? sealedZero(key, nonce, aside, text) : sealedOne(key, nonce, aside, text);
    }

    private static byte[] sealedZero(byte[] key, byte[] nonce, byte[] aside, byte[] text) {
        byte[] h = encipher(key, new byte[16]);
        byte[] j = start(h, nonce);
        byte[] ciphered = ciphered(0, key, j, text);
        byte[] hash = hash(0, h, joined(padded(aside), padded(ciphered), lengths(0, aside.length, text.length)));
        return joined(ciphered, xor(hash, encipher(key, j)));
    }

    private static byte[] sealedOne(byte[] key, byte[] nonce, byte[] aside, byte[] text) {
        byte[] h = derived(key, nonce, 0);
        byte[] g = derived(key, nonce, 2);
        byte[] hash = xor(
                hash(1, h, joined(padded(aside), padded(text), lengths(1, aside.length, text.length))), nonce);
        hash[15] &= 127;
        byte[] seal = encipher(g, hash);
        return joined(ciphered(1, g, counterOfSeal(seal), text), seal);
    }

    static byte[] cipheredBySeal(byte[] key, byte[] nonce, byte[] seal, byte[] text) {
        return ciphered(1, derived(key, nonce, 2), counterOfSeal(seal), text);
    }

    private static byte[] counterOfSeal(byte[] seal) {
        byte[] block = seal.clone();
        block[15] |= (byte) 128;
        return block;
    }

    /** The text that, sealed, makes this, or null. */
    static byte[] opened(int way, byte[] key, byte[] nonce, byte[] aside, byte[] sealed) {
        byte[] ciphered = Arrays.copyOf(sealed, sealed.length - 16);
        byte[] seal = Arrays.copyOfRange(sealed, sealed.length - 16, sealed.length);
        byte[] text = way == 0
                ? ciphered(0, key, start(encipher(key, new byte[16]), nonce), ciphered)
                : cipheredBySeal(key, nonce, seal, ciphered);
        return Arrays.equals(sealed(way, key, nonce, aside, text), sealed) ? text : null;
    }
}
