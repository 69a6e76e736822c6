import java.util.Arrays;
import java.util.HexFormat;
import java.util.Random;

/** What every test needs: answers compared, exceptions named, rows typed. */
final class Check {
    static final int KEY = 0;
    static final int NONCE = 1;
    static final int ASIDE = 2;
    static final int TEXT = 3;

    private static int compared = 0;
    private static int wrong = 0;
    private static int sentences = 0;
    private static String tested = "";

    private Check() {
    }

    interface Call {
        Object answer();
    }

    interface Deed {
        void happen();
    }

    static void same(String what, Object got, Object due) {
        compared++;
        if (!due.equals(got)) {
            wrong++;
            System.out.println(tested + what + " answered " + got + ", due is " + due);
        }
    }

    /** One sentence of the document as a test of its own: if it breaks off, the next ones run all the same. */
    static void sentence(String words, Deed test) {
        tested = "[" + words + "] ";
        int before = compared;
        String ended = outcome(() -> {
            test.happen();
            return "wholly";
        });
        boolean comparedAny = compared > before;
        same("the test ran", ended, "wholly");
        same("the test compared something", comparedAny, true);
        sentences++;
        tested = "";
    }

    static void throwing(String what, Class<? extends RuntimeException> due, Deed deed) {
        same(what, outcome(() -> {
            deed.happen();
            return "nothing";
        }), "throws " + due.getSimpleName());
    }

    /** The answer of a call, or the very class that it throws. */
    static String outcome(Call call) {
        try {
            return String.valueOf(call.answer());
        } catch (RuntimeException e) {
            return "throws " + e.getClass().getSimpleName();
        }
    }

    static void end() {
        String told = sentences == 0 ? "" : sentences + " sentences, ";
        System.out.println(told + compared + " compared, " + wrong + " wrong");
        if (wrong != 0 || compared == 0) {
            System.exit(1);
        }
    }

    static byte[] bytes(String hex) {
        return HexFormat.of().parseHex(hex.replace(" ", ""));
    }

    static byte[] bytesOf(Random random, int length) {
        byte[] bytes = new byte[length];
        random.nextBytes(bytes);
        return bytes;
    }

    static String hex(byte[] bytes) {
        return HexFormat.of().formatHex(bytes);
    }

    static void fill(TwoSeals seals, int row, byte[] bytes) {
        seals.clear(row);
        for (int from = 0; from < bytes.length; from += 8) {
            byte[] part = Arrays.copyOfRange(bytes, from, Math.min(bytes.length, from + 8));
            long bits = 0;
            for (byte b : part) {
                bits = bits << 8 | b & 255;
            }
            seals.type(row, bits, part.length);
        }
    }

    static TwoSeals filled(byte[] key, byte[] nonce, byte[] aside, byte[] text) {
        TwoSeals seals = new TwoSeals();
        fill(seals, KEY, key);
        fill(seals, NONCE, nonce);
        fill(seals, ASIDE, aside);
        fill(seals, TEXT, text);
        return seals;
    }

    static byte[] result(TwoSeals seals) {
        byte[] bytes = new byte[seals.size()];
        for (int i = 0; i < bytes.length; i++) {
            bytes[i] = (byte) seals.at(i);
        }
        return bytes;
    }

    static String hexResult(TwoSeals seals) {
        return hex(result(seals));
    }
}
