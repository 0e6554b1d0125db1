import java.util.Arrays;

/**
 * The terms of the signatures over modules, one by one. Other than PlainDsa this goes by what the terms mean: NTT by
 * the values of a polynomial, all products by multiplying all with all.
 */
public final class DsaTermsTest {
    private static final int Q = 8380417;
    private static final byte[] MESSAGE = Check.some(70, 45);
    private static final byte[] CONTEXT = Check.some(71, 6);

    private final int set;
    private final int k;
    private final int l;
    private final int e;
    private final int t;
    private final int g1;
    private final int g2;
    private final int w;
    private final int c;
    private final byte[] random;
    private final byte[] seeds;
    /** What the class made. */
    private final byte[] open;
    private final byte[] secret;
    private final byte[] packet;
    private final int tries;
    /** The polynomials that A stands for, and S, E, T1, T0. */
    private final int[][][] matrix;
    private final int[][] s;
    private final int[][] errors;
    private final int[][] high;
    private final int[][] low;

    private DsaTermsTest(int set, int... numbers) {
        this.set = set;
        k = numbers[0];
        l = numbers[1];
        e = numbers[2];
        t = numbers[3];
        g1 = 1 << numbers[4];
        g2 = (Q - 1) / numbers[5];
        w = numbers[6];
        c = numbers[7];
        random = Check.some(60 + set, 32);
        seeds = Plain.shake256(Check.join(random, Plain.of(k, l)), 128);
        open = read(this::signed, Check.PUBLIC);
        secret = read(this::signed, Check.SECRET);
        packet = read(this::signed, Check.PACKET);
        LatticeSuite x = new LatticeSuite();
        signed(x);
        tries = x.dsaSign(set, 0);
        matrix = new int[k][l][];
        s = new int[l][];
        errors = new int[k][];
        high = new int[k][256];
        low = new int[k][256];
    }

    public static void main(String[] args) {
        Check.says("Terms", "DSA, sets 0, 1, 2: k 4, 6, 8; l 4, 5, 7; e 2, 4, 2; t 39, 49, 60; g1 2^17, 2^19, 2^19;"
                + " g2 (q - 1) / 88, / 32, / 32; w 80, 55, 75; c 32, 48, 64. q = 8380417. B = t e.");
        DsaTermsTest[] sets = {
            new DsaTermsTest(0, 4, 4, 2, 39, 17, 88, 80, 32), new DsaTermsTest(1, 6, 5, 4, 49, 19, 32, 55, 48),
            new DsaTermsTest(2, 8, 7, 2, 60, 19, 32, 75, 64),
        };
        for (DsaTermsTest it : sets) {
            Check.due("the length of P", it.open.length, 32 + it.k * 320);
            Check.due("the length of D", it.secret.length, 128 + 32 * (it.smallBits() * (it.k + it.l) + 13 * it.k));
            Check.due("that of a signature", it.packet.length, it.c + 32 * it.maskBits() * it.l + it.w + it.k);
            it.samples();
            it.smalls();
            it.keys();
            it.transforms();
            it.signs();
            it.verifies();
        }
        Check.end("DsaTermsTest");
    }

    /** Keys of the random bytes, and a signature of MESSAGE without any. */
    private void signed(LatticeSuite x) {
        Check.put(x, Check.RANDOM, random);
        x.dsaKeys(set);
        x.resize(Check.RANDOM, 0);
        Check.put(x, Check.MESSAGE, MESSAGE);
        Check.put(x, Check.CONTEXT, CONTEXT);
        x.dsaSign(set, 0);
    }

    /** A slot of any length: another object comes in before one has had more calls than are promised. */
    private static byte[] read(Check.Making making, int slot) {
        LatticeSuite x = new LatticeSuite();
        making.make(x);
        byte[] all = new byte[(x.length(slot) + 7) / 8 * 8];
        for (int i = 0; i < all.length; i += 8) {
            if (i % 2400 == 2392) {
                x = new LatticeSuite();
                making.make(x);
            }
            System.arraycopy(Plain.be(x.word(slot, i), 8), 0, all, i, 8);
        }
        return Arrays.copyOf(all, x.length(slot));
    }

    private int smallBits() {
        return e == 4 ? 4 : 3;
    }

    private int maskBits() {
        return g1 == 1 << 19 ? 20 : 18;
    }

    private int highBits() {
        return g2 == (Q - 1) / 32 ? 4 : 6;
    }

    private static long root(int i) {
        int rev = 0;
        for (int bit = 0; bit < 8; bit++) {
            rev = 2 * rev + (i >> bit) % 2;
        }
        return Plain.power(1753, 2 * rev + 1, Q);
    }

    private static int[] ntt(int[] f) {
        int[] g = new int[256];
        for (int i = 0; i < 256; i++) {
            long at = root(i);
            long value = 0;
            for (int n = 255; n >= 0; n--) {
                value = Math.floorMod(value * at + f[n], (long) Q);
            }
            g[i] = (int) value;
        }
        return g;
    }

    private static int[] unntt(int[] g) {
        int[] f = new int[256];
        for (int i = 0; i < 256; i++) {
            // 1753^512 is 1, so that the power 511 turns a root round.
            long over = Plain.power(root(i), 511, Q);
            long by = 8347681;
            for (int n = 0; n < 256; n++) {
                f[n] = (int) ((f[n] + g[i] * by) % Q);
                by = by * over % Q;
            }
        }
        return f;
    }

    private static int centred(long v) {
        int r = (int) Math.floorMod(v, (long) Q);
        return r > (Q - 1) / 2 ? r - Q : r;
    }

    private static int[] product(int[] f, int[] g) {
        long[] all = new long[512];
        for (int i = 0; i < 256; i++) {
            for (int j = 0; j < 256 && f[i] != 0; j++) {
                all[i + j] += (long) f[i] * g[j];
            }
        }
        int[] answer = new int[256];
        for (int i = 0; i < 256; i++) {
            answer[i] = centred(all[i] - all[i + 256]);
        }
        return answer;
    }

    private static int[] sum(int[] f, int[] g, int times) {
        int[] answer = new int[256];
        for (int i = 0; i < 256; i++) {
            answer[i] = centred(f[i] + (long) times * g[i]);
        }
        return answer;
    }

    private static int number(byte[] from, int at, int place, int bits) {
        int v = 0;
        for (int j = 0; j < bits; j++) {
            int bit = place * bits + j;
            v += ((from[at + bit / 8] & 255) >> bit % 8) % 2 << j;
        }
        return v;
    }

    private static void same(String what, int[] got, int[] want) {
        Check.due(what, Arrays.toString(got), Arrays.toString(want));
    }

    /** Numbers less - those in the bytes. */
    private static int[] unpacked(byte[] from, int at, int less, int bits) {
        int[] f = new int[256];
        for (int i = 0; i < 256; i++) {
            f[i] = less - number(from, at, i, bits);
        }
        return f;
    }

    private void samples() {
        Check.says("Terms", "SAMPLE(x): of SHAKE128(x, ..) three BYTES a, b, c at a time: a + 256 b + 65536 (c %"
                + " 128): each that is below q is the next coefficient; at most 298 times, else"
                + " ArithmeticException.");
        for (int i = 0; i < k; i++) {
            for (int j = 0; j < l; j++) {
                byte[] x = Plain.shake128(Check.join(Plain.part(seeds, 0, 32), Plain.of(j, i)), 3 * 298);
                int[] points = new int[256];
                int have = 0;
                for (int n = 0; n < 298 && have < 256; n++) {
                    int v = number(x, 3 * n, 0, 23);
                    if (v < Q) {
                        points[have++] = v;
                    }
                }
                Check.due("there are 256", have, 256);
                matrix[i][j] = unntt(points);
            }
        }
    }

    private void smalls() {
        Check.says("Terms", "SMALL(x): of SHAKE256(x, ..) byte by byte (at most 481, else ArithmeticException) the"
                + " lower, then the higher four bits v: e 2: below 15: 2 - v % 5; e 4: below 9: 4 - v; others give"
                + " none.");
        int at = 128;
        for (int i = 0; i < l + k; i++) {
            byte[] x = Plain.shake256(Check.join(Plain.part(seeds, 32, 64), Plain.of(i, 0)), 481);
            int[] f = new int[256];
            int have = 0;
            for (int n = 0; n < 962 && have < 256; n++) {
                int v = number(x, 0, n, 4);
                if (v < (e == 2 ? 15 : 9)) {
                    f[have++] = e == 2 ? 2 - v % 5 : 4 - v;
                }
            }
            same("S or E, number " + i, unpacked(secret, at, e, smallBits()), f);
            if (i < l) {
                s[i] = f;
            } else {
                errors[i - l] = f;
            }
            at += 32 * smallBits();
        }
    }

    private void keys() {
        Check.says("Terms", "KEYS of x (32 BYTES): r | s | K = H(x | k | l, 128), of 32, 64, 32; A[i, j] = SAMPLE(r"
                + " | j | i); S i = SMALL(s | le(i, 2)), i 0 .. l-1; E i = SMALL(s | le(l + i, 2)), i 0 .. k-1; T i"
                + " = UNNTT(the sum of A[i, j] * NTT(S j)) + E i, 0 .. q - 1; T i = 8192 T1 i + T0 i, coefficient"
                + " by coefficient, T0 in -4095 .. 4096. P = r | BITS(T1 0, 10) | ..; D = r | K | H(P, 64) | PACK(S"
                + " 0, e, 3 or 4 if e is 4) | .. | PACK(E 0, e, the same) | .. | PACK(T0 0, 4096, 13) | ..");
        Check.bytes("r", Plain.part(open, 0, 32), Plain.part(seeds, 0, 32));
        Check.bytes("r of D", Plain.part(secret, 0, 32), Plain.part(seeds, 0, 32));
        Check.bytes("K", Plain.part(secret, 32, 32), Plain.part(seeds, 96, 32));
        Check.bytes("H(P, 64)", Plain.part(secret, 64, 64), Plain.shake256(open, 64));
        for (int i = 0; i < k; i++) {
            int[] all = errors[i];
            for (int j = 0; j < l; j++) {
                all = sum(all, product(matrix[i][j], s[j]), 1);
            }
            low[i] = unpacked(secret, 128 + 32 * smallBits() * (k + l) + 416 * i, 4096, 13);
            for (int n = 0; n < 256; n++) {
                high[i][n] = number(open, 32 + 320 * i, n, 10);
                int whole = Math.floorMod(all[n], Q);
                Check.due("T " + i + ", " + n, 8192 * high[i][n] + low[i][n], whole);
                Check.holds("T0 is in its range", low[i][n] >= -4095 && low[i][n] <= 4096);
            }
        }
    }

    private void transforms() {
        Check.says("Terms", "NTT(f): g i = f at 1753^(2 rev 8 (i) + 1); UNNTT turns that round; f * g of two such:"
                + " coefficient by coefficient. H(x, n) = SHAKE256(x, n). |f|: the greatest of its coefficients"
                + " without sign, each taken as -(q - 1) / 2 .. (q - 1) / 2. PACK(f, b, d): BITS of b - f i (taken"
                + " as such) in d bits; UNPACK turns that round (any bits).");
        int[] first = ntt(matrix[0][0]);
        int[] second = ntt(s[0]);
        int[] both = new int[256];
        for (int i = 0; i < 256; i++) {
            both[i] = (int) ((long) first[i] * second[i] % Q);
        }
        same("a product by its points", sum(unntt(both), new int[256], 0), product(matrix[0][0], s[0]));
        for (int n = 0; n < 256; n++) {
            Check.due("PACK of S 0, " + n, number(secret, 128, n, smallBits()), e - s[0][n]);
        }
    }

    /** LOW as it is found: the one number of its range that leaves a multiple. */
    private int lowOf(int r) {
        int over = Math.floorMod(r, Q);
        int it = over % (2 * g2);
        it -= it > g2 ? 2 * g2 : 0;
        return over - it == Q - 1 ? it - 1 : it;
    }

    private int highOf(int r) {
        int over = Math.floorMod(r, Q);
        for (int it = 0; it < (Q - 1) / (2 * g2); it++) {
            int left = over - it * 2 * g2;
            if (left > -g2 && left <= g2) {
                return it;
            }
        }
        return 0;
    }

    private byte[] highs(byte[] before, int[][] f) {
        byte[] text = before;
        for (int[] it : f) {
            int[] numbers = new int[256];
            for (int n = 0; n < 256; n++) {
                numbers[n] = highOf(it[n]);
            }
            text = Check.join(text, Plain.bits(numbers, highBits()));
        }
        return text;
    }

    private static int most(int[] f) {
        int answer = 0;
        for (int v : f) {
            answer = Math.max(answer, Math.abs(v));
        }
        return answer;
    }

    private int[] ball(byte[] from) {
        byte[] x = Plain.shake256(from, 8 + 121);
        int[] f = new int[256];
        int taken = 8;
        for (int i = 256 - t; i < 256; i++) {
            int j = x[taken++] & 255;
            while (j > i) {
                j = x[taken++] & 255;
            }
            f[i] = f[j];
            f[j] = 1 - 2 * number(x, 0, i + t - 256, 1);
        }
        return f;
    }

    private byte[] message() {
        byte[] x = Check.join(Plain.of(0, CONTEXT.length), CONTEXT, MESSAGE);
        return Plain.shake256(Check.join(Plain.shake256(open, 64), x), 64);
    }

    private void signs() {
        Check.says("Terms", "SIGN(D, x, n), n 32 BYTES: m = H(H(P, 64) (out of D) | x, 64); o = H(K | n | m, 64);"
                + " for a = 0, l, 2 l, ..: Y i = UNPACK(H(o | le(a + i, 2), ..), g1, 18 or 20 if g1 is 2^19); W i ="
                + " UNNTT(the sum of A[i, j] * NTT(Y j)); C = H(m | BITS(HIGH of W 0, 6 or 4 if g2 is (q - 1) / 32)"
                + " | .., c); b = BALL(C); Z i = Y i + b S i; X i = W i - b E i. It starts anew (the next a) if a"
                + " |Z i| is g1 - B or more, or a |LOW of X i| g2 - B or more; or if a |b T0 i| is g2 or more, or"
                + " more than w coefficients of all are HINTS, those at which HIGH of X i + b T0 i is not HIGH of X"
                + " i. After 814 of them: ArithmeticException. The signature: C | PACK(Z 0, g1, 18 or 20) | .. | w"
                + " + k BYTES: for polynomial after polynomial the places of its HINTS, rising; zeros; from byte w"
                + " on for each polynomial how many there are up to its end.");
        byte[] o = Plain.shake256(Check.join(Plain.part(secret, 32, 32), new byte[32], message()), 64);
        byte[] got = new byte[0];
        int tried = 0;
        while (got.length == 0 && tried < tries) {
            got = tryFrom(o, tried * l);
            tried++;
        }
        Check.due("how often it was tried", tries, tried);
        Check.bytes("the signature", packet, got);
    }

    /** The signature that the masks from a on give, or nothing. */
    private byte[] tryFrom(byte[] o, int a) {
        int[][] y = new int[l][];
        for (int i = 0; i < l; i++) {
            byte[] from = Plain.shake256(Check.join(o, Plain.of(a + i, a + i >> 8)), 32 * maskBits());
            y[i] = unpacked(from, 0, g1, maskBits());
        }
        int[][] all = new int[k][256];
        for (int i = 0; i < k; i++) {
            for (int j = 0; j < l; j++) {
                all[i] = sum(all[i], product(matrix[i][j], y[j]), 1);
            }
        }
        byte[] hash = Plain.shake256(highs(message(), all), c);
        int[] b = ball(hash);
        boolean good = true;
        byte[] answer = hash;
        for (int i = 0; i < l; i++) {
            int[] z = sum(y[i], product(b, s[i]), 1);
            good &= most(z) < g1 - t * e;
            answer = Check.join(answer, PlainDsa.pack(z, g1, maskBits()));
        }
        byte[] hints = new byte[w + k + 2048];
        int hinted = 0;
        for (int i = 0; i < k; i++) {
            int[] x = sum(all[i], product(b, errors[i]), -1);
            int[] shift = product(b, low[i]);
            good &= most(shift) < g2;
            for (int n = 0; n < 256; n++) {
                good &= Math.abs(lowOf(x[n])) < g2 - t * e;
                if (highOf(x[n] + shift[n]) != highOf(x[n])) {
                    hints[hinted++] = (byte) n;
                }
            }
            good &= hinted <= w;
            hints[w + i] = (byte) hinted;
        }
        return good ? Check.join(answer, Arrays.copyOf(hints, w + k)) : new byte[0];
    }

    private void verifies() {
        Check.says("Terms", "BALL(x): of SHAKE256(x, ..) 8 BYTES, bits b 0 .. b 63, and then byte by byte (at most"
                + " 121, else ArithmeticException): all f are 0; for i = 256 - t .. 255: BYTES are taken until one,"
                + " j, is not above i; f i = f j, then f j = -1 or 1, if b i+t-256 is 1 or 0.");
        int[] b = ball(Plain.part(packet, 0, c));
        Check.due("so many are 1 or -1", Arrays.stream(b).filter(v -> v == 1 || v == -1).count(), t);
        int[][] x = recovered(b);
        Check.says("Terms", "HIGH, LOW of r (0 .. q - 1): LOW is r modulo 2 g2, in -g2 + 1 .. g2; if r - LOW is q -"
                + " 1: HIGH 0, LOW less by 1; else HIGH = (r - LOW) / (2 g2). There are M = (q - 1) / (2 g2) of"
                + " them.");
        int places = (Q - 1) / (2 * g2);
        Check.due("M", places, set == 0 ? 44 : 16);
        Check.says("Terms", "VERIFY(P, x, s): false unless s has so many BYTES, the counts at its end do not fall"
                + " and are at most w, the places of each polynomial rise, all BYTES between the last of them and"
                + " byte w are 0, and each |Z i| is below g1 - B. m = H(H(P, 64) | x, 64), b = BALL(C), X i ="
                + " UNNTT(the sum of A[i, j] * NTT(Z j) - NTT(b) * NTT(8192 T1 i)); at a HINT HIGH is one more (LOW"
                + " above 0) or one less, modulo M. It is true if H(m | BITS(these HIGHS of X 0, 6 or 4) | .., c)"
                + " is C.");
        byte[] text = message();
        int hintsAt = packet.length - w - k;
        int next = 0;
        for (int i = 0; i < k; i++) {
            int[] numbers = new int[256];
            for (int n = 0; n < 256; n++) {
                numbers[n] = highOf(x[i][n]);
            }
            for (; next < (packet[hintsAt + w + i] & 255); next++) {
                int n = packet[hintsAt + next] & 255;
                numbers[n] = (numbers[n] + (lowOf(x[i][n]) > 0 ? 1 : places - 1)) % places;
            }
            text = Check.join(text, Plain.bits(numbers, highBits()));
        }
        Check.bytes("C", Plain.shake256(text, c), Plain.part(packet, 0, c));
        LatticeSuite y = new LatticeSuite();
        signed(y);
        Check.due("dsaVerify", y.dsaVerify(set, 0), true);
        Check.slotIs("SHARED", y, Check.SHARED, Plain.shake256(text, c));
        y.alter(Check.MESSAGE, 0, 1);
        Check.due("dsaVerify of another MESSAGE", y.dsaVerify(set, 0), false);
    }

    /** X of VERIFY. */
    private int[][] recovered(int[] b) {
        int[][] x = new int[k][256];
        for (int i = 0; i < k; i++) {
            for (int j = 0; j < l; j++) {
                int[] z = unpacked(packet, c + 32 * maskBits() * j, g1, maskBits());
                x[i] = sum(x[i], product(matrix[i][j], z), 1);
            }
            x[i] = sum(x[i], product(b, high[i]), -8192);
        }
        return x;
    }
}
