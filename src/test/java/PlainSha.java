import java.math.BigInteger;
import java.util.Arrays;

/**
 * The SHA-2 family, HMAC and MGF1 by the words of the document: even the constants are the roots that it tells,
 * not a table. Plain has them from the Java library, that is, by FIPS; where both agree the words are FIPS.
 */
final class PlainSha {
    /** SHA-256 and SHA-512. */
    static final PlainSha SMALL = new PlainSha(32, 64, new int[][] {{2, 13, 22}, {6, 11, 25}, {7, 18, 3}, {17, 19, 10}});
    static final PlainSha LARGE = new PlainSha(64, 80, new int[][] {{28, 34, 39}, {14, 18, 41}, {1, 8, 7}, {19, 61, 6}});

    /** Bits of a word. */
    private final int width;
    private final int rounds;
    private final int[][] shifts;
    private final long[] k;

    private PlainSha(int width, int rounds, int[][] shifts) {
        this.width = width;
        this.rounds = rounds;
        this.shifts = shifts;
        k = new long[rounds];
        for (int t = 0; t < rounds; t++) {
            k[t] = fraction(prime(t), 3) >>> 64 - width;
        }
    }

    int block() {
        return 2 * width;
    }

    /** By the numbers of `how`. */
    static byte[] hash(int how, byte[] x) {
        long[] first = new long[8];
        long[] second = new long[8];
        for (int i = 0; i < 8; i++) {
            first[i] = fraction(prime(i), 2);
            second[i] = fraction(prime(8 + i), 2);
        }
        switch (how) {
            case 1:
                return SMALL.hash(shifted(first, 32), x, 32);
            case 2:
                return LARGE.hash(second, x, 48);
            case 3:
                return LARGE.hash(first, x, 64);
            case 4:
                return SMALL.hash(lowest32(second), x, 28);
            case 5:
                return LARGE.hash(named("SHA-512/224", first), x, 28);
            default:
                return LARGE.hash(named("SHA-512/256", first), x, 32);
        }
    }

    static byte[] mac(int how, byte[] key, byte[] x) {
        int size = how == 1 ? SMALL.block() : LARGE.block();
        byte[] k = Arrays.copyOf(key.length > size ? hash(how, key) : key, size);
        byte[] inner = k.clone();
        byte[] outer = k.clone();
        for (int i = 0; i < size; i++) {
            inner[i] ^= 0x36;
            outer[i] ^= 0x5c;
        }
        return hash(how, Check.join(outer, hash(how, Check.join(inner, x))));
    }

    static byte[] mask(int how, byte[] x, int n) {
        byte[] all = new byte[0];
        for (int i = 0; all.length < n; i++) {
            all = Check.join(all, hash(how, Check.join(x, Plain.of(i >> 24, i >> 16, i >> 8, i))));
        }
        return Arrays.copyOf(all, n);
    }

    private static long[] named(String name, long[] first) {
        long[] start = new long[8];
        for (int i = 0; i < 8; i++) {
            start[i] = first[i] ^ 0xa5a5a5a5a5a5a5a5L;
        }
        byte[] it = LARGE.hash(start, name.getBytes(), 64);
        long[] answer = new long[8];
        for (int i = 0; i < 64; i++) {
            answer[i / 8] = answer[i / 8] << 8 | it[i] & 255;
        }
        return answer;
    }

    private static long[] shifted(long[] words, int by) {
        long[] answer = new long[8];
        for (int i = 0; i < 8; i++) {
            answer[i] = words[i] >>> by;
        }
        return answer;
    }

    /** The bits 33 to 64. */
    private static long[] lowest32(long[] words) {
        long[] answer = new long[8];
        for (int i = 0; i < 8; i++) {
            answer[i] = words[i] & 0xffffffffL;
        }
        return answer;
    }

    /** Prime number i, 2 being number 0. */
    private static int prime(int i) {
        int left = i;
        for (int p = 2;; p++) {
            if (BigInteger.valueOf(p).isProbablePrime(30) && left-- == 0) {
                return p;
            }
        }
    }

    /** The first 64 bits behind the point of the root of p of this degree. */
    private static long fraction(int p, int degree) {
        BigInteger of = BigInteger.valueOf(p).shiftLeft(64 * degree);
        BigInteger root = BigInteger.ZERO;
        for (int bit = 70; bit >= 0; bit--) {
            BigInteger more = root.setBit(bit);
            if (more.pow(degree).compareTo(of) <= 0) {
                root = more;
            }
        }
        return root.longValue();
    }

    private long cut(long v) {
        return width == 64 ? v : v & 0xffffffffL;
    }

    private long turned(long v, int by) {
        return cut(v >>> by | v << width - by);
    }

    /** S0 or S1. */
    private long large(int which, long v) {
        int[] by = shifts[which];
        return turned(v, by[0]) ^ turned(v, by[1]) ^ turned(v, by[2]);
    }

    /** s0 or s1. */
    private long small(int which, long v) {
        int[] by = shifts[2 + which];
        return turned(v, by[0]) ^ turned(v, by[1]) ^ v >>> by[2];
    }

    private byte[] hash(long[] start, byte[] x, int n) {
        int size = block();
        byte[] padded = new byte[(x.length + size / 8 + size) / size * size];
        System.arraycopy(x, 0, padded, 0, x.length);
        padded[x.length] = (byte) 128;
        System.arraycopy(Plain.be(8L * x.length, size / 8), 0, padded, padded.length - size / 8, size / 8);
        long[] h = start.clone();
        for (int from = 0; from < padded.length; from += size) {
            takeBlock(h, padded, from);
        }
        byte[] answer = new byte[n];
        for (int i = 0; i < n; i++) {
            answer[i] = (byte) (h[i / (width / 8)] >>> width - 8 - i % (width / 8) * 8);
        }
        return answer;
    }

    private void takeBlock(long[] h, byte[] from, int at) {
        long[] w = new long[rounds];
        for (int i = 0; i < block(); i++) {
            w[i / (width / 8)] = w[i / (width / 8)] << 8 | from[at + i] & 255;
        }
        for (int t = 16; t < rounds; t++) {
            w[t] = cut(small(1, w[t - 2]) + w[t - 7] + small(0, w[t - 15]) + w[t - 16]);
        }
        // a .. h are v[0] .. v[7].
        long[] v = h.clone();
        for (int t = 0; t < rounds; t++) {
            long choice = v[4] & v[5] ^ cut(~v[4]) & v[6];
            long first = v[7] + large(1, v[4]) + choice + k[t] + w[t];
            long second = large(0, v[0]) + (v[0] & v[1] ^ v[0] & v[2] ^ v[1] & v[2]);
            System.arraycopy(v, 0, v, 1, 7);
            v[4] = cut(v[4] + first);
            v[0] = cut(first + second);
        }
        for (int i = 0; i < 8; i++) {
            h[i] = cut(h[i] + v[i]);
        }
    }
}
