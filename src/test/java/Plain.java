import java.security.GeneralSecurityException;
import java.security.MessageDigest;
import java.util.Arrays;
import javax.crypto.Mac;
import javax.crypto.spec.SecretKeySpec;

/**
 * The document's terms, as near to its words as can be and as slow as that is: what the tests at the edges
 * compare the class with. SHA-2, SHA-3, HMAC are those of the Java library; SHAKE, which it does not have, is
 * the SPONGE of the document.
 */
final class Plain {
    private static final String[] HASHES = {
        "", "SHA-256", "SHA-384", "SHA-512", "SHA-224", "SHA-512/224", "SHA-512/256",
        "SHA3-224", "SHA3-256", "SHA3-384", "SHA3-512",
    };

    private static final int[][] TURNS = turns();
    private static final long[] ROUNDS = rounds();

    private Plain() {
    }

    static byte[] sponge(int r, int s, byte[] x, int n) {
        byte[] padded = Arrays.copyOf(x, (x.length + r) / r * r);
        padded[x.length] = (byte) s;
        padded[padded.length - 1] ^= (byte) 128;
        long[][] lanes = new long[5][5];
        for (int from = 0; from < padded.length; from += r) {
            for (int i = 0; i < r; i++) {
                lanes[i / 8 % 5][i / 40] ^= (padded[from + i] & 255L) << 8 * (i % 8);
            }
            permute(lanes);
        }
        byte[] answer = new byte[n];
        for (int i = 0; i < n; i++) {
            if (i > 0 && i % r == 0) {
                permute(lanes);
            }
            int at = i % r;
            answer[i] = (byte) (lanes[at / 8 % 5][at / 40] >>> 8 * (at % 8));
        }
        return answer;
    }

    private static void permute(long[][] lanes) {
        long[] c = new long[5];
        long[][] turned = new long[5][5];
        for (int i = 0; i < 24; i++) {
            for (int a = 0; a < 5; a++) {
                c[a] = lanes[a][0] ^ lanes[a][1] ^ lanes[a][2] ^ lanes[a][3] ^ lanes[a][4];
            }
            for (int a = 0; a < 5; a++) {
                long d = c[(a + 4) % 5] ^ Long.rotateLeft(c[(a + 1) % 5], 1);
                for (int b = 0; b < 5; b++) {
                    turned[b][(2 * a + 3 * b) % 5] = Long.rotateLeft(lanes[a][b] ^ d, TURNS[a][b]);
                }
            }
            for (int a = 0; a < 5; a++) {
                for (int b = 0; b < 5; b++) {
                    lanes[a][b] = turned[a][b] ^ (~turned[(a + 1) % 5][b] & turned[(a + 2) % 5][b]);
                }
            }
            lanes[0][0] ^= ROUNDS[i];
        }
    }

    private static int[][] turns() {
        int[][] answer = new int[5][5];
        int a = 1;
        int b = 0;
        for (int t = 0; t < 24; t++) {
            answer[a][b] = (t + 1) * (t + 2) / 2 % 64;
            int next = (2 * a + 3 * b) % 5;
            a = b;
            b = next;
        }
        return answer;
    }

    private static long[] rounds() {
        long[] answer = new long[24];
        int c = 1;
        for (int t = 0; t < 7 * 24; t++) {
            if ((c & 1) == 1) {
                answer[t / 7] |= 1L << (1 << t % 7) - 1;
            }
            c <<= 1;
            if (c > 255) {
                c = (c ^ 113) & 255;
            }
        }
        return answer;
    }

    static byte[] shake128(byte[] x, int n) {
        return sponge(168, 31, x, n);
    }

    static byte[] shake256(byte[] x, int n) {
        return sponge(136, 31, x, n);
    }

    static byte[] sha(String name, byte[] x) {
        try {
            return MessageDigest.getInstance(name).digest(x);
        } catch (GeneralSecurityException e) {
            throw new IllegalStateException(e);
        }
    }

    /** The h of how. */
    static byte[] hash(int how, byte[] x) {
        return how == 11 ? shake128(x, 32) : how == 12 ? shake256(x, 64) : sha(HASHES[how], x);
    }

    static byte[] mac(String name, byte[] k, byte[] x) {
        try {
            Mac mac = Mac.getInstance("Hmac" + name.replace("-", ""));
            // The library takes no empty key; one zero is the same key.
            mac.init(new SecretKeySpec(k.length == 0 ? new byte[1] : k, "any"));
            return mac.doFinal(x);
        } catch (GeneralSecurityException e) {
            throw new IllegalStateException(e);
        }
    }

    static byte[] mask(String name, byte[] x, int n) {
        byte[] answer = new byte[n];
        int done = 0;
        for (int i = 0; done < n; i++) {
            byte[] part = sha(name, Check.join(x, be(i, 4)));
            int size = Math.min(part.length, n - done);
            System.arraycopy(part, 0, answer, done, size);
            done += size;
        }
        return answer;
    }

    static byte[] be(long v, int n) {
        byte[] answer = new byte[n];
        for (int i = 0; i < n && i < 8; i++) {
            answer[n - 1 - i] = (byte) (v >>> 8 * i);
        }
        return answer;
    }

    static byte[] le(int v, int n) {
        byte[] answer = new byte[n];
        for (int i = 0; i < n && i < 4; i++) {
            answer[i] = (byte) (v >>> 8 * i);
        }
        return answer;
    }

    static byte[] of(int... numbers) {
        byte[] answer = new byte[numbers.length];
        for (int i = 0; i < numbers.length; i++) {
            answer[i] = (byte) numbers[i];
        }
        return answer;
    }

    static byte[] part(byte[] x, int from, int n) {
        return Arrays.copyOfRange(x, from, from + n);
    }

    static int bit(byte[] x, int j) {
        return x[j / 8] >> j % 8 & 1;
    }

    /** BITS(f, d). */
    static byte[] bits(int[] f, int d) {
        byte[] answer = new byte[f.length * d / 8];
        for (int i = 0; i < f.length; i++) {
            for (int j = 0; j < d; j++) {
                answer[(i * d + j) / 8] |= (byte) ((f[i] >> j & 1) << (i * d + j) % 8);
            }
        }
        return answer;
    }

    static int[] unbits(byte[] x, int from, int d) {
        int[] f = new int[256];
        for (int j = 0; j < 256 * d; j++) {
            f[j / d] |= bit(x, 8 * from + j) << j % d;
        }
        return f;
    }

    /** rev n (i). */
    static int turned(int i, int n) {
        int answer = 0;
        for (int j = 0; j < n; j++) {
            answer |= (i >> j & 1) << n - 1 - j;
        }
        return answer;
    }

    static long power(long base, long times, long q) {
        long answer = 1;
        for (long i = 0; i < times; i++) {
            answer = answer * base % q;
        }
        return answer;
    }

    /** SIGNED x. */
    static byte[] signed(int how, byte[] context, byte[] message) {
        if (how == -1) {
            return message;
        }
        if (how == 0) {
            return Check.join(of(0, context.length), context, message);
        }
        return Check.join(of(1, context.length), context, of(6, 9, 96, 134, 72, 1, 101, 3, 4, 2, how),
                hash(how, message));
    }
}
