import java.util.Arrays;

/** The key encapsulation, as near to the document's words as can be. */
final class PlainKem {
    static final int Q = 3329;

    final int k;
    private final int e1;
    final int du;
    final int dv;
    /** GAMMA[i][j]: the number that X^2 is in pair i, to the power of j. */
    private static final long[][] GAMMA = new long[128][129];

    static {
        for (int i = 0; i < 128; i++) {
            long gamma = Plain.power(17, 2 * Plain.turned(i, 7) + 1, Q);
            GAMMA[i][0] = 1;
            for (int j = 1; j <= 128; j++) {
                GAMMA[i][j] = GAMMA[i][j - 1] * gamma % Q;
            }
        }
    }

    PlainKem(int set) {
        k = new int[] {2, 3, 4}[set];
        e1 = new int[] {3, 2, 2}[set];
        du = new int[] {10, 10, 11}[set];
        dv = new int[] {4, 4, 5}[set];
    }

    int publicSize() {
        return 384 * k + 32;
    }

    int secretSize() {
        return 768 * k + 96;
    }

    int packetSize() {
        return 32 * (du * k + dv);
    }

    static int[] ntt(int[] f) {
        int[] g = new int[256];
        for (int i = 0; i < 256; i++) {
            long sum = 0;
            for (int j = 0; j < 128; j++) {
                sum += f[2 * j + i % 2] * GAMMA[i / 2][j];
            }
            g[i] = (int) Math.floorMod(sum, (long) Q);
        }
        return g;
    }

    /** The power 128 of each gamma is -1: so minus the power 128 - j is the inverse of the power j. */
    private static int[] unntt(int[] g) {
        int[] f = new int[256];
        for (int i = 0; i < 256; i++) {
            long sum = 0;
            for (int j = 0; j < 128; j++) {
                long gamma = i < 2 ? 1 : -GAMMA[j][128 - i / 2];
                sum += g[2 * j + i % 2] * gamma;
            }
            f[i] = (int) Math.floorMod(sum * 3303, (long) Q);
        }
        return f;
    }

    private static void addProduct(int[] sum, int[] f, int[] g) {
        for (int i = 0; i < 256; i += 2) {
            long high = f[i + 1] * g[i + 1] % Q;
            sum[i] = (int) ((sum[i] + f[i] * g[i] + high * GAMMA[i / 2][1]) % Q);
            sum[i + 1] = (sum[i + 1] + f[i] * g[i + 1] % Q + f[i + 1] * g[i]) % Q;
        }
    }

    /** How many times three bytes SAMPLE takes. */
    static int triples(byte[] x) {
        return sampled(x)[256];
    }

    static int[] sample(byte[] x) {
        return Arrays.copyOf(sampled(x), 256);
    }

    /** The 256 coefficients, how many times three bytes gave them, and what of sampleMeets was met. */
    private static int[] sampled(byte[] x) {
        byte[] from = Plain.shake128(x, 3 * 280);
        int[] f = new int[258];
        int have = 0;
        for (int t = 0; have < 256; t++) {
            int a = from[3 * t] & 255;
            int b = from[3 * t + 1] & 255;
            int c = from[3 * t + 2] & 255;
            for (int v : new int[] {a + 256 * (b % 16), b / 16 + 16 * c}) {
                f[257] |= v == Q - 1 ? 1 : v == Q ? 2 : 0;
                f[257] |= have == 256 && v < Q ? 4 : 0;
                if (v < Q && have < 256) {
                    f[have++] = v;
                }
            }
            f[256] = t + 1;
        }
        return f;
    }

    /** Of 1, 2 and 4: a number is q - 1, one is q, one is left over behind the 256th. */
    static int sampleMeets(byte[] x) {
        return sampled(x)[257];
    }

    private int[] noise(int e, byte[] s, int number) {
        byte[] x = Plain.shake256(Check.join(s, Plain.of(number)), 64 * e);
        int[] f = new int[256];
        for (int i = 0; i < 256; i++) {
            for (int j = 0; j < e; j++) {
                f[i] += Plain.bit(x, 2 * i * e + j) - Plain.bit(x, 2 * i * e + e + j);
            }
        }
        return f;
    }

    /** How often COMPRESS d came to 2^d, which is 0 then. */
    static final int[] WRAPS = new int[12];

    static int compress(int x, int d) {
        long nearest = Math.floorDiv((2L << d) * x + Q, 2L * Q);
        if (nearest == 1 << d) {
            WRAPS[d]++;
        }
        return (int) (nearest % (1 << d));
    }

    static int decompress(int y, int d) {
        return (int) Math.floorDiv(2L * Q * y + (1L << d), 2L << d);
    }

    private static int[] modulo(int[] f) {
        int[] answer = new int[256];
        for (int i = 0; i < 256; i++) {
            answer[i] = Math.floorMod(f[i], Q);
        }
        return answer;
    }

    byte[][] keys(byte[] random) {
        byte[] both = Plain.hash(10, Check.join(Plain.part(random, 0, 32), Plain.of(k)));
        byte[] r = Plain.part(both, 0, 32);
        byte[] s = Plain.part(both, 32, 32);
        byte[] p = new byte[0];
        byte[] d = new byte[0];
        for (int i = 0; i < k; i++) {
            int[] sum = ntt(noise(e1, s, k + i));
            for (int j = 0; j < k; j++) {
                addProduct(sum, sample(Check.join(r, Plain.of(j, i))), ntt(noise(e1, s, j)));
            }
            p = Check.join(p, Plain.bits(sum, 12));
            d = Check.join(d, Plain.bits(ntt(noise(e1, s, i)), 12));
        }
        p = Check.join(p, r);
        return new byte[][] {p, Check.join(d, p, Plain.hash(8, p), Plain.part(random, 32, 32))};
    }

    private byte[] encrypt(byte[] p, byte[] m, byte[] r) {
        byte[] seed = Plain.part(p, 384 * k, 32);
        byte[] c = new byte[0];
        int[] last = new int[256];
        for (int i = 0; i < k; i++) {
            int[] sum = new int[256];
            for (int j = 0; j < k; j++) {
                addProduct(sum, sample(Check.join(seed, Plain.of(i, j))), ntt(noise(e1, r, j)));
            }
            int[] u = unntt(sum);
            int[] f = noise(2, r, k + i);
            for (int n = 0; n < 256; n++) {
                u[n] = compress(Math.floorMod(u[n] + f[n], Q), du);
            }
            c = Check.join(c, Plain.bits(u, du));
            addProduct(last, modulo(Plain.unbits(p, 384 * i, 12)), ntt(noise(e1, r, i)));
        }
        int[] v = unntt(last);
        int[] g = noise(2, r, 2 * k);
        for (int n = 0; n < 256; n++) {
            v[n] = compress(Math.floorMod(v[n] + g[n] + decompress(Plain.bit(m, n), 1), Q), dv);
        }
        return Check.join(c, Plain.bits(v, dv));
    }

    /** The ciphertext and the key. */
    byte[][] wrap(byte[] p, byte[] m) {
        byte[] both = Plain.hash(10, Check.join(m, Plain.hash(8, p)));
        return new byte[][] {encrypt(p, m, Plain.part(both, 32, 32)), Plain.part(both, 0, 32)};
    }

    /** The key and, as one byte, what kemOpen answers. */
    byte[][] open(byte[] d, byte[] c) {
        int[] sum = new int[256];
        for (int j = 0; j < k; j++) {
            int[] u = Plain.unbits(c, 32 * du * j, du);
            for (int n = 0; n < 256; n++) {
                u[n] = decompress(u[n], du);
            }
            addProduct(sum, modulo(Plain.unbits(d, 384 * j, 12)), ntt(u));
        }
        int[] v = Plain.unbits(c, 32 * du * k, dv);
        int[] minus = unntt(sum);
        for (int n = 0; n < 256; n++) {
            v[n] = compress(Math.floorMod(decompress(v[n], dv) - minus[n], Q), 1);
        }
        byte[] m = Plain.bits(v, 1);
        byte[] h = Plain.part(d, 768 * k + 32, 32);
        byte[] z = Plain.part(d, 768 * k + 64, 32);
        byte[] both = Plain.hash(10, Check.join(m, h));
        byte[] again = encrypt(Plain.part(d, 384 * k, publicSize()), m, Plain.part(both, 32, 32));
        if (Arrays.equals(again, c)) {
            return new byte[][] {Plain.part(both, 0, 32), Plain.of(1)};
        }
        return new byte[][] {Plain.shake256(Check.join(z, c), 32), Plain.of(0)};
    }

    /**
     * A D that opens c to m with no room for error: with it V - S U is, at each bit of m, the first or the last
     * number that COMPRESS 1 takes for that bit. Its numbers of 12 bits are q and more where they can be.
     */
    byte[] tightSecret(byte[] p, byte[] c, byte[] m, byte[] z) {
        int[] u = Plain.unbits(c, 0, du);
        int[] left = Plain.unbits(c, 32 * du * k, dv);
        for (int n = 0; n < 256; n++) {
            int aim = Plain.bit(m, n) == 0 ? (n % 3 == 0 ? 832 : 2497) : n % 3 == 0 ? 833 : 2496;
            left[n] = decompress(left[n], dv) - aim;
            u[n] = decompress(u[n], du);
        }
        int[] s = new int[256];
        addProduct(s, modulo(ntt(left)), inverse(ntt(u)));
        for (int n = 0; n < 256; n++) {
            s[n] += s[n] + Q < 4096 ? Q : 0;
        }
        return Check.join(Plain.bits(s, 12), new byte[384 * (k - 1)], p, Plain.hash(8, p), z);
    }

    /** Of what NTT gives, pair by pair. */
    private static int[] inverse(int[] g) {
        int[] answer = new int[256];
        for (int i = 0; i < 256; i += 2) {
            long norm = Math.floorMod((long) g[i] * g[i] - (long) g[i + 1] * g[i + 1] % Q * GAMMA[i / 2][1], (long) Q);
            long over = Plain.power(norm, Q - 2, Q);
            answer[i] = (int) (g[i] * over % Q);
            answer[i + 1] = (int) (Math.floorMod(-g[i + 1] * over, (long) Q));
        }
        return answer;
    }
}
