import java.security.MessageDigest;
import java.util.Arrays;
import javax.crypto.Mac;
import javax.crypto.spec.SecretKeySpec;

/** Promise 10, against the hash functions of the Java library and, for SHAKE, against known answers. */
public final class DigestTest {
    private static final String[] NAMES = {
        "", "SHA-256", "SHA-384", "SHA-512", "SHA-224", "SHA-512/224", "SHA-512/256",
        "SHA3-224", "SHA3-256", "SHA3-384", "SHA3-512",
    };
    /** Round the ends of blocks of 64, 72, 104, 128, 136, 144 and 168 bytes, with and without padding. */
    private static final int[] LENGTHS = {
        0, 1, 3, 55, 56, 57, 63, 64, 65, 71, 72, 73, 103, 104, 105, 111, 112, 113, 119, 120, 127, 128, 129,
        135, 136, 137, 143, 144, 145, 167, 168, 169, 239, 240, 241, 255, 256, 257, 271, 272, 273, 335, 336, 337,
    };

    public static void main(String[] args) throws Exception {
        for (int kind = 1; kind <= 10; kind++) {
            plain(kind);
        }
        shake();
        mac(13, "SHA-256");
        mac(14, "SHA-512");
        mask(15, "SHA-256");
        mask(16, "SHA-512");
        wrongNumbers();
        Check.end("DigestTest");
    }

    private static void plain(int kind) throws Exception {
        MessageDigest due = MessageDigest.getInstance(NAMES[kind]);
        for (int n : LENGTHS) {
            LatticeSuite x = new LatticeSuite();
            byte[] text = Check.some(n, n);
            Check.put(x, Check.MESSAGE, text);
            byte[] want = due.digest(text);
            Check.due("digest(" + kind + ") of " + n, x.digest(kind, n), want.length);
            Check.bytes("digest(" + kind + ") of " + n, Check.get(x, Check.SHARED), want);
        }
        LatticeSuite x = new LatticeSuite();
        x.resize(Check.MESSAGE, 65536);
        x.digest(kind, 65536);
        Check.bytes("digest(" + kind + ") of zeros", Check.get(x, Check.SHARED), due.digest(new byte[65536]));
    }

    private static void shake() {
        shakeOf("", 11, 32, "7f9c2ba4e88f827d616045507605853ed73b8093f6efbc88eb1a6eacfa66ef26");
        shakeOf("", 12, 64, "46b9dd2b0ba88d13233b3feb743eeb243fcd52ea62b81b82b50c27646ed5762f"
                + "d75dc4ddd8c0f200cb05019d67b592f6fc821c49479ab48640292eacb3b7c4be");
        shakeOf("abc", 11, 32, "5881092dd818bf5cf8a3ddb793fbcba74097d5c526a6d35f97b83351940f2cc8");
        shakeOf("abc", 12, 32, "483366601360a8771c6863080cc4114d8db44530f8f1e1ee4f94ea37e78b5739");
        for (int kind = 11; kind <= 12; kind++) {
            for (int n : LENGTHS) {
                shakeGrows(kind, n);
            }
        }
    }

    private static void shakeOf(String text, int kind, int n, String want) {
        LatticeSuite x = new LatticeSuite();
        Check.put(x, Check.MESSAGE, text.getBytes());
        Check.due("digest(" + kind + ", " + n + ")", x.digest(kind, n), n);
        Check.due("digest(" + kind + ") of '" + text + "'", Check.hex(Check.get(x, Check.SHARED)), want);
    }

    /** A shorter answer is the beginning of a longer one. */
    private static void shakeGrows(int kind, int n) {
        LatticeSuite x = new LatticeSuite();
        Check.put(x, Check.MESSAGE, Check.some(n, n));
        x.digest(kind, 700);
        byte[] whole = Check.get(x, Check.SHARED);
        Check.due("digest(" + kind + ", " + n + ")", x.digest(kind, n), n);
        Check.bytes("digest(" + kind + ", " + n + ")", Check.get(x, Check.SHARED), Arrays.copyOf(whole, n));
    }

    private static void mac(int kind, String name) throws Exception {
        for (int n : new int[] {0, 1, 32, 63, 64, 65, 127, 128, 129, 200}) {
            LatticeSuite x = new LatticeSuite();
            byte[] key = Check.some(kind, n);
            byte[] text = Check.some(n, 3 * n);
            Check.put(x, Check.RANDOM, key);
            Check.put(x, Check.MESSAGE, text);
            Mac due = Mac.getInstance("Hmac" + name.replace("-", ""));
            // The library takes no empty key; one zero is the same key.
            due.init(new SecretKeySpec(n == 0 ? new byte[1] : key, "any"));
            byte[] want = due.doFinal(text);
            Check.due("digest(" + kind + ")", x.digest(kind, 5), want.length);
            Check.bytes("digest(" + kind + ") by a key of " + n, Check.get(x, Check.SHARED), want);
            Check.bytes("RANDOM stays", Check.get(x, Check.RANDOM), key);
            Check.bytes("MESSAGE stays", Check.get(x, Check.MESSAGE), text);
        }
    }

    private static void mask(int kind, String name) throws Exception {
        for (int n : new int[] {0, 1, 31, 32, 33, 63, 64, 65, 300, 65536}) {
            LatticeSuite x = new LatticeSuite();
            byte[] text = Check.some(n, n % 150);
            Check.put(x, Check.MESSAGE, text);
            Check.due("digest(" + kind + ", " + n + ")", x.digest(kind, n), n);
            byte[] want = maskOf(name, text, n);
            if (n <= 300) {
                Check.bytes("digest(" + kind + ", " + n + ")", Check.get(x, Check.SHARED), want);
            } else {
                String due = Check.hex(MessageDigest.getInstance("SHA-256").digest(want));
                Check.due("digest(" + kind + ", " + n + ")", Check.hashOf(x, Check.SHARED), due);
            }
        }
    }

    private static byte[] maskOf(String name, byte[] text, int n) throws Exception {
        MessageDigest hash = MessageDigest.getInstance(name);
        byte[] it = new byte[0];
        for (int i = 0; it.length < n; i++) {
            byte[] count = {(byte) (i >> 24), (byte) (i >> 16), (byte) (i >> 8), (byte) i};
            it = Check.join(it, hash.digest(Check.join(text, count)));
        }
        return Arrays.copyOf(it, n);
    }

    private static void wrongNumbers() {
        LatticeSuite x = new LatticeSuite();
        Check.put(x, Check.SHARED, Check.some(1, 20));
        for (int bad : new int[] {0, -1, 17, Integer.MIN_VALUE, Integer.MAX_VALUE}) {
            Check.fails("digest(" + bad + ", 1)", Check.ARGUMENT, () -> x.digest(bad, 1));
        }
        for (int kind = 1; kind <= 16; kind++) {
            int it = kind;
            Check.fails("digest(" + kind + ", -1)", Check.ARGUMENT, () -> x.digest(it, -1));
            Check.fails("digest(" + kind + ", 65537)", Check.ARGUMENT, () -> x.digest(it, 65537));
        }
        Check.bytes("SHARED stays", Check.get(x, Check.SHARED), Check.some(1, 20));
        Check.due("digest(11, 0)", x.digest(11, 0), 0);
        Check.due("SHARED is empty", x.length(Check.SHARED), 0);
    }
}
