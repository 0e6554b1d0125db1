import java.util.Arrays;

/**
 * The terms of the key encapsulation, one by one. Other than PlainKem this goes by what the terms mean: NTT by a
 * division of polynomials, products by multiplying all with all, COMPRESS by a search for the nearest number.
 */
public final class KemTermsTest {
    private static final int Q = 3329;

    private final int set;
    private final int k;
    private final int e1;
    private final int du;
    private final int dv;
    private final byte[] random;
    private final byte[] text;
    /** What the class made. */
    private final byte[] secret;
    private final byte[] packet;
    private final byte[] key;
    /** A[i][j] as SAMPLE gives it, and S, E, T by their coefficients. */
    private final int[][][] matrix;
    private final int[][] s;
    private final int[][] e;
    private final int[][] t;

    private KemTermsTest(int set, int k, int e1, int du, int dv) {
        this.set = set;
        this.k = k;
        this.e1 = e1;
        this.du = du;
        this.dv = dv;
        random = Check.some(40 + set, 64);
        text = Check.some(50 + set, 32);
        LatticeSuite x = new LatticeSuite();
        Check.put(x, Check.RANDOM, random);
        x.kemKeys(set);
        secret = Check.get(x, Check.SECRET);
        LatticeSuite y = new LatticeSuite();
        Check.put(y, Check.RANDOM, random);
        y.kemKeys(set);
        Check.slotIs("PUBLIC is the P in D", y, Check.PUBLIC, Plain.part(secret, 384 * k, 384 * k + 32));
        Check.put(y, Check.RANDOM, text);
        y.kemWrap(set);
        packet = Check.get(y, Check.PACKET);
        key = Check.get(y, Check.SHARED);
        matrix = new int[k][k][];
        s = new int[k][];
        e = new int[k][];
        t = new int[k][];
    }

    public static void main(String[] args) {
        Check.says("Terms", "KEM, sets 0, 1, 2: k 2, 3, 4; e1 3, 2, 2; e2 2; du 10, 10, 11; dv 4, 4, 5. q = 3329.");
        KemTermsTest[] sets = {
            new KemTermsTest(0, 2, 3, 10, 4), new KemTermsTest(1, 3, 2, 10, 4), new KemTermsTest(2, 4, 2, 11, 5),
        };
        for (KemTermsTest it : sets) {
            Check.due("the length of D", it.secret.length, 768 * it.k + 96);
            Check.due("the length of the ciphertext", it.packet.length, 32 * (it.du * it.k + it.dv));
            it.samples();
            it.noises();
            it.keys();
            it.transforms();
            it.products();
            it.roundings();
            it.wraps();
            it.opens();
        }
        Check.end("KemTermsTest");
    }

    private static int gamma(int i) {
        int rev = 0;
        for (int bit = 0; bit < 7; bit++) {
            rev = 2 * rev + (i >> bit) % 2;
        }
        return (int) Plain.power(17, 2 * rev + 1, Q);
    }

    /** f modulo X^2 - gamma, as two numbers: X^n goes to gamma X^(n - 2), from the highest on. */
    private static int[] remainder(int[] f, int gamma) {
        int[] left = f.clone();
        for (int n = 255; n >= 2; n--) {
            left[n - 2] = Math.floorMod(left[n - 2] + gamma * left[n], Q);
        }
        return new int[] {Math.floorMod(left[0], Q), Math.floorMod(left[1], Q)};
    }

    private static int[] ntt(int[] f) {
        int[] g = new int[256];
        for (int i = 0; i < 128; i++) {
            System.arraycopy(remainder(f, gamma(i)), 0, g, 2 * i, 2);
        }
        return g;
    }

    /** The f with NTT(f) = g: the sum of the f of each pair of g alone, whose other pairs are 0. */
    private static int[] unntt(int[] g) {
        int[] f = new int[256];
        for (int i = 0; i < 128; i++) {
            int over = (int) Plain.power(gamma(i), Q - 2, Q);
            long by = Plain.power(128, Q - 2, Q);
            for (int n = 0; n < 256; n += 2) {
                f[n] = (int) ((f[n] + g[2 * i] * by) % Q);
                f[n + 1] = (int) ((f[n + 1] + g[2 * i + 1] * by) % Q);
                by = by * over % Q;
            }
        }
        return f;
    }

    private static int[] product(int[] f, int[] g) {
        long[] all = new long[511];
        for (int i = 0; i < 256; i++) {
            for (int j = 0; j < 256; j++) {
                all[i + j] += (long) f[i] * g[j];
            }
        }
        int[] answer = new int[256];
        for (int i = 0; i < 256; i++) {
            answer[i] = (int) Math.floorMod(all[i] - (i < 255 ? all[i + 256] : 0), (long) Q);
        }
        return answer;
    }

    private static int[] sum(int[] f, int[] g) {
        int[] answer = new int[256];
        for (int i = 0; i < 256; i++) {
            answer[i] = Math.floorMod(f[i] + g[i], Q);
        }
        return answer;
    }

    private static int[] noise(int e, byte[] from, int number) {
        byte[] x = Plain.shake256(Check.join(from, Plain.of(number)), 64 * e);
        int[] f = new int[256];
        for (int bit = 0; bit < 512 * e; bit++) {
            int one = (x[bit / 8] & 255) >> bit % 8 & 1;
            f[bit / (2 * e)] += bit % (2 * e) < e ? one : -one;
        }
        return f;
    }

    private static int nearest(long over, long under, int most) {
        int best = 0;
        for (int y = 0; y <= most; y++) {
            // Of two as near as each other the later one is taken.
            if (Math.abs(over - y * under) <= Math.abs(over - best * under)) {
                best = y;
            }
        }
        return best;
    }

    private static int compress(int x, int d) {
        return nearest((long) x << d, Q, 1 << d) % (1 << d);
    }

    private static int decompress(int y, int d) {
        return nearest((long) y * Q, 1 << d, Q);
    }

    private static int number(byte[] from, int at, int place, int bits) {
        int v = 0;
        for (int j = 0; j < bits; j++) {
            int bit = place * bits + j;
            v += ((from[at + bit / 8] & 255) >> bit % 8) % 2 << j;
        }
        return v;
    }

    private static int[] numbers(byte[] from, int at, int bits) {
        int[] f = new int[256];
        for (int i = 0; i < 256; i++) {
            f[i] = number(from, at, i, bits);
        }
        return f;
    }

    private static void same(String what, int[] got, int[] want) {
        Check.due(what, Arrays.toString(got), Arrays.toString(want));
    }

    private byte[] seeds() {
        return Plain.hash(10, Check.join(Plain.part(random, 0, 32), Plain.of(k)));
    }

    private void samples() {
        Check.says("Terms", "SAMPLE(x): of SHAKE128(x, ..) three BYTES a, b, c at a time: a + 256 (b % 16), then b"
                + " / 16 + 16 c: each that is below q is the next coefficient, until there are 256; if 280 times"
                + " three are not enough: ArithmeticException.");
        for (int i = 0; i < k; i++) {
            for (int j = 0; j < k; j++) {
                byte[] x = Plain.shake128(Check.join(Plain.part(seeds(), 0, 32), Plain.of(j, i)), 840);
                int have = 0;
                matrix[i][j] = new int[256];
                for (int place = 0; have < 256 && place < 560; place++) {
                    // Two numbers of three bytes are numbers of twelve bits, the lowest first.
                    int v = number(x, 0, place, 12);
                    if (v < Q) {
                        matrix[i][j][have++] = v;
                    }
                }
                Check.due("there are 256", have, 256);
            }
        }
    }

    private void noises() {
        Check.says("Terms", "CBD e (x): coefficient i is the sum of bits 2 i e .. 2 i e + e - 1 of x minus that of"
                + " the next e. PRF e (s, b) = SHAKE256(s | b, 64 e).");
        for (int i = 0; i < k; i++) {
            s[i] = noise(e1, Plain.part(seeds(), 32, 32), i);
            e[i] = noise(e1, Plain.part(seeds(), 32, 32), k + i);
            int[] got = unntt(numbers(secret, 384 * i, 12));
            same("S " + i + " out of D", got, sum(s[i], new int[256]));
        }
    }

    private void keys() {
        Check.says("Terms", "KEYS of d, z (32 BYTES each): r | s = SHA3-512(d | k); A[i, j] = SAMPLE(r | j | i); S"
                + " i = CBD e1 (PRF e1 (s, i)), E i = CBD e1 (PRF e1 (s, k + i)), i 0 .. k-1; T i = the sum of A[i,"
                + " j] * NTT(S j), plus NTT(E i). P = BITS(T 0, 12) | .. | r; D = BITS(NTT(S 0), 12) | .. | P |"
                + " SHA3-256(P) | z.");
        for (int i = 0; i < k; i++) {
            t[i] = e[i];
            for (int j = 0; j < k; j++) {
                t[i] = sum(t[i], product(unntt(matrix[i][j]), s[j]));
            }
            same("T " + i, numbers(secret, 384 * (k + i), 12), ntt(t[i]));
        }
        byte[] p = Plain.part(secret, 384 * k, 384 * k + 32);
        Check.bytes("r", Plain.part(p, 384 * k, 32), Plain.part(seeds(), 0, 32));
        Check.bytes("SHA3-256(P)", Plain.part(secret, 768 * k + 32, 32), Plain.hash(8, p));
        Check.bytes("z", Plain.part(secret, 768 * k + 64, 32), Plain.part(random, 32, 32));
    }

    private void transforms() {
        Check.says("Terms", "NTT(f): g with g 2i + g 2i+1 X = f modulo X^2 - 17^(2 rev 7 (i) + 1), i 0 .. 127;"
                + " UNNTT turns that round; f * g of two such: pair by pair, the product modulo that X^2 - ..");
        int[] got = numbers(secret, 0, 12);
        for (int i = 0; i < 128; i++) {
            int[] pair = remainder(s[0], gamma(i));
            Check.due("g " + 2 * i, got[2 * i], pair[0]);
            Check.due("g " + (2 * i + 1), got[2 * i + 1], pair[1]);
        }
        same("turned round", ntt(unntt(matrix[0][k - 1])), matrix[0][k - 1]);
        // T 0 minus NTT(E 0), pair by pair: the products of A[0, j] and NTT(S j).
        for (int i = 0; i < 128; i++) {
            int[] all = remainder(e[0], gamma(i));
            for (int j = 0; j < k; j++) {
                int[] other = remainder(s[j], gamma(i));
                int a = matrix[0][j][2 * i];
                int b = matrix[0][j][2 * i + 1];
                all[0] = (all[0] + a * other[0] + b * other[1] % Q * gamma(i)) % Q;
                all[1] = (all[1] + a * other[1] + b * other[0]) % Q;
            }
            Check.due("T 0, number " + 2 * i, number(secret, 384 * k, 2 * i, 12), all[0]);
            Check.due("T 0, number " + (2 * i + 1), number(secret, 384 * k, 2 * i + 1, 12), all[1]);
        }
    }

    /** The ciphertext by products of polynomials alone. */
    private void products() {
        Check.says("Terms", "POLYNOMIALS have 256 coefficients f 0 .. f 255, numbers modulo q; those of products"
                + " are reduced by X^256 = -1. BITS(f, d): coefficient after coefficient in d bits, the lowest"
                + " first, together as BYTES. rev n (i): the n bits of i turned round.");
        int[][] parts = parts();
        for (int i = 0; i < k; i++) {
            for (int n = 0; n < 256; n++) {
                Check.due("U " + i + ", " + n, number(packet, 32 * du * i, n, du), compress(parts[i][n], du));
            }
        }
    }

    /** U and, behind it, V. */
    private int[][] parts() {
        byte[] r = Plain.part(Plain.hash(10, Check.join(text, Plain.part(secret, 768 * k + 32, 32))), 32, 32);
        int[][] parts = new int[k + 1][];
        for (int i = 0; i <= k; i++) {
            parts[i] = noise(2, r, k + i);
            for (int j = 0; j < k; j++) {
                int[] by = i < k ? unntt(matrix[j][i]) : t[j];
                parts[i] = sum(parts[i], product(by, noise(e1, r, j)));
            }
        }
        for (int n = 0; n < 256; n++) {
            parts[k][n] = (parts[k][n] + decompress(number(text, 0, n, 1), 1)) % Q;
        }
        return parts;
    }

    private void roundings() {
        Check.says("Terms", "COMPRESS d (x): the nearest whole number to 2^d x / q (halves up) modulo 2^d;"
                + " DECOMPRESS d (y): that to q y / 2^d (halves up).");
        Check.due("DECOMPRESS 1 of 1", decompress(1, 1), 1665);
        int[] v = parts()[k];
        for (int n = 0; n < 256; n++) {
            Check.due("V " + n, number(packet, 32 * du * k, n, dv), compress(v[n], dv));
        }
    }

    private void wraps() {
        Check.says("Terms", "ENCRYPT(P, m, r): T, by 12 bits each modulo q, and A of P's last 32 BYTES; Y i = CBD"
                + " e1 (PRF e1 (r, i)), F i = CBD e2 (PRF e2 (r, k + i)), G = CBD e2 (PRF e2 (r, 2 k)); U i ="
                + " UNNTT(the sum of A[j, i] * NTT(Y j)) + F i; V = UNNTT(the sum of T j * NTT(Y j)) + G + the"
                + " polynomial of DECOMPRESS 1 of the bits of m. It is BITS(COMPRESS du (U 0), du) | .. |"
                + " BITS(COMPRESS dv (V), dv).");
        int[][] parts = parts();
        byte[] c = new byte[0];
        for (int i = 0; i <= k; i++) {
            for (int n = 0; n < 256; n++) {
                parts[i][n] = compress(parts[i][n], i < k ? du : dv);
            }
            c = Check.join(c, Plain.bits(parts[i], i < k ? du : dv));
        }
        Check.bytes("the ciphertext", packet, c);
        Check.says("Terms", "WRAP(P, m): K | r = SHA3-512(m | SHA3-256(P)), the ciphertext ENCRYPT(P, m, r), the"
                + " key K.");
        byte[] p = Plain.part(secret, 384 * k, 384 * k + 32);
        Check.bytes("the key", key, Plain.part(Plain.hash(10, Check.join(text, Plain.hash(8, p))), 0, 32));
    }

    private void opens() {
        Check.says("Terms", "OPEN(D, c): U, V DECOMPRESSED; m the bits COMPRESS 1 (V - UNNTT(the sum of S j * NTT(U"
                + " j))), S by 12 bits each modulo q out of D; K | r = SHA3-512(m | h), h and z the next to last"
                + " and last 32 BYTES of D; the key is K if ENCRYPT(P, m, r) is c, P being that in D, else"
                + " SHAKE256(z | c, 32).");
        int[] v = numbers(packet, 32 * du * k, dv);
        int[] minus = new int[256];
        for (int j = 0; j < k; j++) {
            int[] u = numbers(packet, 32 * du * j, du);
            for (int n = 0; n < 256; n++) {
                u[n] = decompress(u[n], du);
            }
            minus = sum(minus, product(u, s[j]));
        }
        for (int n = 0; n < 256; n++) {
            int bit = compress(Math.floorMod(decompress(v[n], dv) - minus[n], Q), 1);
            Check.due("bit " + n + " of m", bit, number(text, 0, n, 1));
        }
        LatticeSuite x = new LatticeSuite();
        Check.put(x, Check.SECRET, secret);
        Check.put(x, Check.PACKET, packet);
        Check.due("kemOpen", x.kemOpen(set), 1);
        Check.slotIs("K", x, Check.SHARED, key);
        byte[] other = packet.clone();
        other[0] ^= 1;
        x.alter(Check.PACKET, 0, 1);
        Check.due("kemOpen of another one", x.kemOpen(set), 0);
        Check.slotIs("else", x, Check.SHARED, Plain.shake256(Check.join(Plain.part(random, 32, 32), other), 32));
    }
}
