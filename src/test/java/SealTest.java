import java.security.GeneralSecurityException;
import java.util.Random;
import javax.crypto.Cipher;
import javax.crypto.spec.GCMParameterSpec;
import javax.crypto.spec.SecretKeySpec;

/** Promise 8: seal. */
final class SealTest {
    private static final byte[] NOTHING = new byte[0];

    private SealTest() {
    }

    public static void main(String[] args) throws GeneralSecurityException {
        publishedSealsOfWayZero();
        publishedSealsOfWayOne();
        wayZeroIsTheLibrarysGcm();
        everyLengthInBothWays();
        rowsStayAsTheyAre();
        refusals();
        Check.end();
    }

    private static void seals(int way, String key, String nonce, String aside, String text, String due) {
        TwoSeals seals = Check.filled(Check.bytes(key), Check.bytes(nonce), Check.bytes(aside), Check.bytes(text));
        int length = Check.bytes(text).length;
        Check.same("seal(" + way + ") of " + length, seals.seal(way), length + 16);
        Check.same("seal(" + way + ") of " + text, Check.hexResult(seals), due);
    }

    // The test cases 1 and 2 of the GCM paper.
    private static void publishedSealsOfWayZero() {
        String zeros = "00000000000000000000000000000000";
        String nonce = "000000000000000000000000";
        seals(0, zeros, nonce, "", "", "58e2fccefa7e3061367f1d57a4e7455a");
        seals(0, zeros, nonce, "", zeros, "0388dace60b6a392f328c2b971b2fe78ab6e47d42cec13bdf53a67b21257bddf");
    }

    // RFC 8452, appendix C.1.
    private static void publishedSealsOfWayOne() {
        String key = "01000000000000000000000000000000";
        String nonce = "030000000000000000000000";
        seals(1, key, nonce, "", "", "dc20e2d83f25705bb49e439eca56de25");
        seals(1, key, nonce, "", "0100000000000000", "b5d839330ac7b786578782fff6013b815b287c22493a364c");
        seals(1, key, nonce, "", "010000000000000000000000",
                "7323ea61d05932260047d942a4978db357391a0bc4fdec8b0d106639");
        seals(1, key, nonce, "", "01000000000000000000000000000000",
                "743f7c8077ab25f8624e2e948579cf77303aaf90f6fe21199c6068577437a0c4");
        seals(1, key, nonce, "", "0100000000000000000000000000000002000000000000000000000000000000",
                "84e07e62ba83a6585417245d7ec413a9fe427d6315c09b57ce45f2e3936a9445"
                + "1a8e45dcd4578c667cd86847bf6155ff");
        seals(1, key, nonce, "01", "0200000000000000", "1e6daba35669f4273b0a1a2560969cdf790d99759abd1508");
    }

    private static void wayZeroIsTheLibrarysGcm() throws GeneralSecurityException {
        Random random = new Random(8);
        for (int nonceLength = 1; nonceLength <= 24; nonceLength++) {
            for (int run = 0; run < 12; run++) {
                byte[] key = Check.bytesOf(random, 16);
                byte[] nonce = Check.bytesOf(random, nonceLength);
                byte[] aside = Check.bytesOf(random, random.nextInt(33));
                byte[] text = Check.bytesOf(random, random.nextInt(49));
                Cipher gcm = Cipher.getInstance("AES/GCM/NoPadding");
                gcm.init(Cipher.ENCRYPT_MODE, new SecretKeySpec(key, "AES"), new GCMParameterSpec(128, nonce));
                gcm.updateAAD(aside);
                seals(0, Check.hex(key), Check.hex(nonce), Check.hex(aside), Check.hex(text),
                        Check.hex(gcm.doFinal(text)));
            }
        }
    }

    private static void comparesWithReference(int way, byte[] key, byte[] nonce, byte[] aside, byte[] text) {
        seals(way, Check.hex(key), Check.hex(nonce), Check.hex(aside), Check.hex(text),
                Check.hex(Reference.sealed(way, key, nonce, aside, text)));
    }

    private static void everyLengthInBothWays() {
        Random random = new Random(88);
        for (int length = 0; length <= 48; length++) {
            for (int way = 0; way < 2; way++) {
                byte[] key = Check.bytesOf(random, 16);
                byte[] nonce = Check.bytesOf(random, 12);
                comparesWithReference(way, key, nonce, NOTHING, Check.bytesOf(random, length));
                comparesWithReference(way, key, nonce, Check.bytesOf(random, 32), Check.bytesOf(random, length));
                comparesWithReference(way, key, nonce, Check.bytesOf(random, length % 33), Check.bytesOf(random, 48));
            }
        }
    }

    private static void rowsStayAsTheyAre() {
        Random random = new Random(880);
        byte[] key = Check.bytesOf(random, 16);
        byte[] nonce = Check.bytesOf(random, 12);
        byte[] aside = Check.bytesOf(random, 21);
        byte[] text = Check.bytesOf(random, 37);
        TwoSeals seals = Check.filled(key, nonce, aside, text);
        for (int run = 0; run < 8; run++) {
            int way = run / 2 % 2;
            seals.seal(way);
            Check.same("sealed again", Check.hexResult(seals),
                    Check.hex(Reference.sealed(way, key, nonce, aside, text)));
        }
        Check.same("length of the key", seals.clear(Check.KEY), 16);
        Check.same("length of the nonce", seals.clear(Check.NONCE), 12);
        Check.same("length of aside", seals.clear(Check.ASIDE), 21);
        Check.same("length of the text", seals.clear(Check.TEXT), 37);
    }

    private static void refusals() {
        TwoSeals seals = Check.filled(new byte[16], new byte[12], NOTHING, new byte[48]);
        seals.seal(1);
        String before = Check.hexResult(seals);
        for (int way : new int[] {-1, 2, Integer.MIN_VALUE, Integer.MAX_VALUE}) {
            Check.throwing("seal(" + way + ")", IllegalArgumentException.class, () -> seals.seal(way));
        }
        for (int length = 49; length <= 64; length++) {
            refusesBoth(Check.filled(new byte[16], new byte[12], NOTHING, new byte[length]), "text of " + length);
        }
        for (int length = 0; length < 16; length++) {
            Check.fill(seals, Check.KEY, new byte[length]);
            refusesBoth(seals, "key of " + length);
        }
        Check.fill(seals, Check.KEY, new byte[16]);
        seals.clear(Check.NONCE);
        refusesBoth(seals, "empty nonce");
        for (int length = 1; length <= 24; length++) {
            if (length != 12) {
                Check.fill(seals, Check.NONCE, new byte[length]);
                Check.throwing("seal(1), nonce of " + length, IllegalStateException.class, () -> seals.seal(1));
            }
        }
        Check.throwing("seal(2), nonce of 24", IllegalArgumentException.class, () -> seals.seal(2));
        Check.same("the result after refused seals", Check.hexResult(seals), before);
    }

    private static void refusesBoth(TwoSeals seals, String what) {
        Check.throwing("seal(0), " + what, IllegalStateException.class, () -> seals.seal(0));
        Check.throwing("seal(1), " + what, IllegalStateException.class, () -> seals.seal(1));
        Check.throwing("seal(2), " + what, IllegalArgumentException.class, () -> seals.seal(2));
    }
}
