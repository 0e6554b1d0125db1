import java.util.Arrays;

/** The signatures over modules, as near to the document's words as can be. */
final class PlainDsa {
    static final int Q = 8380417;
    private static final int MOST_TRIES = 814;

    final int k;
    final int l;
    final int e;
    final int t;
    final int g1;
    final int g2;
    final int w;
    final int c;
    /** The B of the document. */
    final int most;
    final int smallBits;
    final int maskBits;
    final int highBits;
    /** ROOTS[i][j]: the place at which NTT takes coefficient i, to the power of j. */
    private static final long[][] ROOTS = new long[256][257];

    private byte[] seedOfMatrix = new byte[0];
    private int[][][] matrix;

    static {
        for (int i = 0; i < 256; i++) {
            long root = Plain.power(1753, 2 * Plain.turned(i, 8) + 1, Q);
            ROOTS[i][0] = 1;
            for (int j = 1; j <= 256; j++) {
                ROOTS[i][j] = ROOTS[i][j - 1] * root % Q;
            }
        }
    }

    PlainDsa(int set) {
        k = new int[] {4, 6, 8}[set];
        l = new int[] {4, 5, 7}[set];
        e = new int[] {2, 4, 2}[set];
        t = new int[] {39, 49, 60}[set];
        g1 = 1 << new int[] {17, 19, 19}[set];
        g2 = (Q - 1) / new int[] {88, 32, 32}[set];
        w = new int[] {80, 55, 75}[set];
        c = new int[] {32, 48, 64}[set];
        most = t * e;
        smallBits = e == 4 ? 4 : 3;
        maskBits = g1 == 1 << 19 ? 20 : 18;
        highBits = g2 == (Q - 1) / 32 ? 4 : 6;
    }

    int publicSize() {
        return 32 + 320 * k;
    }

    int secretSize() {
        return 128 + 32 * (smallBits * (k + l) + 13 * k);
    }

    int packetSize() {
        return hintsAt() + w + k;
    }

    int hintsAt() {
        return c + 32 * maskBits * l;
    }

    static int[] ntt(int[] f) {
        int[] g = new int[256];
        for (int i = 0; i < 256; i++) {
            long sum = 0;
            for (int j = 0; j < 256; j++) {
                sum += f[j] * ROOTS[i][j];
            }
            g[i] = (int) Math.floorMod(sum, (long) Q);
        }
        return g;
    }

    /** The power 256 of each root is -1: so minus the power 256 - j is the inverse of the power j. */
    static int[] unntt(int[] g) {
        int[] f = new int[256];
        for (int j = 0; j < 256; j++) {
            long sum = 0;
            for (int i = 0; i < 256; i++) {
                sum += g[i] * (j == 0 ? 1 : -ROOTS[i][256 - j]);
            }
            f[j] = (int) Math.floorMod(Math.floorMod(sum, (long) Q) * 8347681, (long) Q);
        }
        return f;
    }

    /** The product of two polynomials, each number in -(q - 1) / 2 .. (q - 1) / 2. */
    static int[] product(int[] f, int[] g) {
        long[] sum = new long[256];
        for (int i = 0; i < 256; i++) {
            for (int j = 0; f[i] != 0 && j < 256; j++) {
                sum[(i + j) % 256] += (i + j < 256 ? 1L : -1L) * f[i] * g[j];
            }
        }
        int[] answer = new int[256];
        for (int i = 0; i < 256; i++) {
            answer[i] = centred(sum[i]);
        }
        return answer;
    }

    private static int centred(long v) {
        int answer = (int) Math.floorMod(v, (long) Q);
        return answer > (Q - 1) / 2 ? answer - Q : answer;
    }

    /** How many times three bytes SAMPLE takes. */
    static int triples(byte[] x) {
        byte[] from = Plain.shake128(x, 3 * 298);
        int have = 0;
        int i = 0;
        while (have < 256) {
            have += (from[3 * i] & 255) + 256 * (from[3 * i + 1] & 255) + 65536 * (from[3 * i + 2] & 127) < Q ? 1 : 0;
            i++;
        }
        return i;
    }

    private static int[] sample(byte[] x) {
        byte[] from = Plain.shake128(x, 3 * 298);
        int[] f = new int[256];
        int have = 0;
        for (int i = 0; have < 256; i++) {
            int v = (from[3 * i] & 255) + 256 * (from[3 * i + 1] & 255) + 65536 * (from[3 * i + 2] & 127);
            if (v < Q) {
                f[have++] = v;
            }
        }
        return f;
    }

    int[][][] matrixOf(byte[] seed) {
        if (!Arrays.equals(seed, seedOfMatrix)) {
            matrix = new int[k][l][];
            for (int i = 0; i < k; i++) {
                for (int j = 0; j < l; j++) {
                    matrix[i][j] = sample(Check.join(seed, Plain.of(j, i)));
                }
            }
            seedOfMatrix = seed;
        }
        return matrix;
    }

    /** How many halves of bytes SMALL takes. */
    int smallHalves(byte[] x) {
        byte[] from = Plain.shake256(x, 481);
        int have = 0;
        int i = 0;
        while (have < 256) {
            have += (from[i / 2] >> 4 * (i % 2) & 15) < (e == 2 ? 15 : 9) ? 1 : 0;
            i++;
        }
        return i;
    }

    private int[] small(byte[] x) {
        byte[] from = Plain.shake256(x, 481);
        int[] f = new int[257];
        int have = 0;
        for (int i = 0; have < 256; i++) {
            for (int v : new int[] {from[i] & 15, from[i] >> 4 & 15}) {
                if (e == 2 && v < 15) {
                    f[have++] = 2 - v % 5;
                } else if (e == 4 && v < 9) {
                    f[have++] = 4 - v;
                }
            }
        }
        return Arrays.copyOf(f, 256);
    }

    /** How many bytes behind the first eight BALL takes. */
    int ballBytes(byte[] x) {
        byte[] from = Plain.shake256(x, 8 + 121);
        int at = 8;
        for (int i = 256 - t; i < 256; i++) {
            while ((from[at] & 255) > i) {
                at++;
            }
            at++;
        }
        return at - 8;
    }

    int[] ball(byte[] x) {
        byte[] from = Plain.shake256(x, 8 + 121);
        int[] f = new int[256];
        int at = 8;
        for (int i = 256 - t; i < 256; i++) {
            while ((from[at] & 255) > i) {
                at++;
            }
            int j = from[at++] & 255;
            f[i] = f[j];
            f[j] = Plain.bit(from, i + t - 256) == 1 ? -1 : 1;
        }
        return f;
    }

    int low(int r) {
        int low = lowest(r);
        return r - low == Q - 1 ? low - 1 : low;
    }

    private int lowest(int r) {
        int low = r % (2 * g2);
        return low > g2 ? low - 2 * g2 : low;
    }

    int high(int r) {
        int low = lowest(r);
        return r - low == Q - 1 ? 0 : (r - low) / (2 * g2);
    }

    static byte[] pack(int[] f, int b, int d) {
        int[] turned = new int[256];
        for (int i = 0; i < 256; i++) {
            turned[i] = b - f[i];
        }
        return Plain.bits(turned, d);
    }

    static int[] unpack(byte[] x, int from, int b, int d) {
        int[] f = Plain.unbits(x, from, d);
        for (int i = 0; i < 256; i++) {
            f[i] = b - f[i];
        }
        return f;
    }

    /** The sum of A[i, j] * v[j] over all j, v as NTT gives it. */
    private static int[] row(int[][] matrix, int[][] v) {
        long[] sum = new long[256];
        for (int j = 0; j < v.length; j++) {
            for (int n = 0; n < 256; n++) {
                sum[n] += (long) matrix[j][n] * v[j][n];
            }
        }
        int[] answer = new int[256];
        for (int n = 0; n < 256; n++) {
            answer[n] = (int) (sum[n] % Q);
        }
        return answer;
    }

    private static int[][] ntt(int[][] v) {
        int[][] answer = new int[v.length][];
        for (int i = 0; i < v.length; i++) {
            answer[i] = ntt(v[i]);
        }
        return answer;
    }

    byte[][] keys(byte[] x) {
        byte[] seeds = Plain.shake256(Check.join(x, Plain.of(k, l)), 128);
        byte[] r = Plain.part(seeds, 0, 32);
        byte[] s = Plain.part(seeds, 32, 64);
        int[][] first = new int[l][];
        for (int i = 0; i < l; i++) {
            first[i] = small(Check.join(s, Plain.le(i, 2)));
        }
        int[][] second = new int[k][];
        int[][] lows = new int[k][256];
        byte[] p = r;
        for (int i = 0; i < k; i++) {
            second[i] = small(Check.join(s, Plain.le(l + i, 2)));
            int[] sum = unntt(row(matrixOf(r)[i], ntt(first)));
            int[] highs = new int[256];
            for (int n = 0; n < 256; n++) {
                int v = Math.floorMod(sum[n] + second[i][n], Q);
                lows[i][n] = v % 8192 > 4096 ? v % 8192 - 8192 : v % 8192;
                highs[n] = (v - lows[i][n]) / 8192;
            }
            p = Check.join(p, Plain.bits(highs, 10));
        }
        byte[] d = secret(r, Plain.part(seeds, 96, 32), Plain.shake256(p, 64), first, second, lows);
        return new byte[][] {p, d};
    }

    /** The D of its parts, whatever they are. */
    byte[] secret(byte[] r, byte[] key, byte[] hash, int[][] first, int[][] second, int[][] lows) {
        byte[] d = Check.join(r, key, hash);
        for (int[] f : first) {
            d = Check.join(d, pack(f, e, smallBits));
        }
        for (int[] f : second) {
            d = Check.join(d, pack(f, e, smallBits));
        }
        for (int[] f : lows) {
            d = Check.join(d, pack(f, 4096, 13));
        }
        return d;
    }

    /** The Y of the try of SIGN that begins with a. */
    int[][] masks(byte[] d, byte[] signed, byte[] n, int a) {
        byte[] m = Plain.shake256(Check.join(Plain.part(d, 64, 64), signed), 64);
        byte[] o = Plain.shake256(Check.join(Plain.part(d, 32, 32), n, m), 64);
        int[][] y = new int[l][];
        for (int i = 0; i < l; i++) {
            byte[] from = Plain.shake256(Check.join(o, Plain.le(a + i, 2)), 32 * maskBits);
            y[i] = unpack(from, 0, g1, maskBits);
        }
        return y;
    }

    /** One of the tries of SIGN, and what comes of it. */
    final class Try {
        final int[][] y = new int[l][];
        final int[][] w = new int[k][];
        final byte[] hash;
        final int[] ball;
        final int[][] z = new int[l][256];
        final int[][] x = new int[k][256];
        final boolean[][] hinted = new boolean[k][256];
        int mostZ;
        int mostLow;
        int mostShift;
        int hints;
        private final byte[] places = new byte[1024 * 8];
        private final byte[] counts = new byte[k];

        /** Its masks, hash and ball: these come of r, K and the hash in D alone. */
        Try(byte[] d, byte[] signed, byte[] n, int a) {
            byte[] text = Plain.shake256(Check.join(Plain.part(d, 64, 64), signed), 64);
            System.arraycopy(masks(d, signed, n, a), 0, y, 0, l);
            int[][] points = ntt(y);
            for (int i = 0; i < k; i++) {
                w[i] = unntt(row(matrixOf(Plain.part(d, 0, 32))[i], points));
                int[] highs = new int[256];
                for (int j = 0; j < 256; j++) {
                    highs[j] = high(w[i][j]);
                }
                text = Check.join(text, Plain.bits(highs, highBits));
            }
            hash = Plain.shake256(text, c);
            ball = PlainDsa.this.ball(hash);
        }

        /** What the other parts of D make of it. */
        Try with(int[][] first, int[][] second, int[][] lows) {
            mostZ = 0;
            mostLow = 0;
            mostShift = 0;
            hints = 0;
            for (int i = 0; i < l; i++) {
                int[] by = product(ball, first[i]);
                for (int j = 0; j < 256; j++) {
                    z[i][j] = y[i][j] + by[j];
                    mostZ = Math.max(mostZ, Math.abs(z[i][j]));
                }
            }
            for (int i = 0; i < k; i++) {
                int[] by = product(ball, second[i]);
                int[] shift = product(ball, lows[i]);
                for (int j = 0; j < 256; j++) {
                    x[i][j] = Math.floorMod(w[i][j] - by[j], Q);
                    mostLow = Math.max(mostLow, Math.abs(low(x[i][j])));
                    mostShift = Math.max(mostShift, Math.abs(shift[j]));
                    hinted[i][j] = high(Math.floorMod(x[i][j] + shift[j], Q)) != high(x[i][j]);
                    if (hinted[i][j]) {
                        places[hints++] = (byte) j;
                    }
                }
                counts[i] = (byte) hints;
            }
            return this;
        }

        Try with(byte[] d) {
            int at = 128;
            int[][] first = new int[l][];
            for (int i = 0; i < l; i++, at += 32 * smallBits) {
                first[i] = unpack(d, at, e, smallBits);
            }
            int[][] second = new int[k][];
            for (int i = 0; i < k; i++, at += 32 * smallBits) {
                second[i] = unpack(d, at, e, smallBits);
            }
            int[][] lows = new int[k][];
            for (int i = 0; i < k; i++, at += 32 * 13) {
                lows[i] = unpack(d, at, 4096, 13);
            }
            return with(first, second, lows);
        }

        boolean holds() {
            return mostZ < g1 - most && mostLow < g2 - most && mostShift < g2 && hints <= PlainDsa.this.w;
        }

        byte[] packet() {
            byte[] s = hash;
            for (int[] f : z) {
                s = Check.join(s, pack(f, g1, maskBits));
            }
            return Check.join(s, Arrays.copyOf(Arrays.copyOf(places, hints), PlainDsa.this.w), counts);
        }
    }

    /** The signature and, as two bytes, how often it was tried. */
    byte[][] sign(byte[] d, byte[] signed, byte[] n) {
        for (int tries = 1; tries <= MOST_TRIES; tries++) {
            Try it = new Try(d, signed, n, (tries - 1) * l).with(d);
            if (it.holds()) {
                return new byte[][] {it.packet(), Plain.be(tries, 2)};
            }
        }
        throw new ArithmeticException();
    }

    /** What is compared with C; nothing, where it is false before that. */
    byte[] verify(byte[] p, byte[] signed, byte[] s) {
        if (s.length != packetSize() || !hintsAreGood(s)) {
            return new byte[0];
        }
        int[][] z = new int[l][];
        for (int i = 0; i < l; i++) {
            z[i] = unpack(s, c + 32 * maskBits * i, g1, maskBits);
            for (int v : z[i]) {
                if (Math.abs(v) >= g1 - most) {
                    return new byte[0];
                }
            }
        }
        int[][] x = recovered(p, z, ball(Plain.part(s, 0, c)));
        byte[] text = Plain.shake256(Check.join(Plain.shake256(p, 64), signed), 64);
        int from = 0;
        for (int i = 0; i < k; i++) {
            int upTo = s[hintsAt() + w + i] & 255;
            int[] highs = new int[256];
            for (int n = 0; n < 256; n++) {
                highs[n] = high(x[i][n]);
            }
            for (; from < upTo; from++) {
                int n = s[hintsAt() + from] & 255;
                int by = low(x[i][n]) > 0 ? 1 : -1;
                highs[n] = Math.floorMod(high(x[i][n]) + by, (Q - 1) / (2 * g2));
            }
            text = Check.join(text, Plain.bits(highs, highBits));
        }
        return Plain.shake256(text, c);
    }

    /** X of VERIFY. */
    int[][] recovered(byte[] p, int[][] z, int[] ball) {
        int[][] points = ntt(z);
        int[] ballPoints = ntt(ball);
        int[][] x = new int[k][];
        for (int i = 0; i < k; i++) {
            int[] top = Plain.unbits(p, 32 + 320 * i, 10);
            for (int n = 0; n < 256; n++) {
                top[n] *= 8192;
            }
            int[] sum = row(matrixOf(Plain.part(p, 0, 32))[i], points);
            int[] minus = ntt(top);
            for (int n = 0; n < 256; n++) {
                sum[n] = (int) Math.floorMod(sum[n] - (long) ballPoints[n] * minus[n], (long) Q);
            }
            x[i] = unntt(sum);
        }
        return x;
    }

    private boolean hintsAreGood(byte[] s) {
        int from = 0;
        for (int i = 0; i < k; i++) {
            int upTo = s[hintsAt() + w + i] & 255;
            if (upTo < from || upTo > w) {
                return false;
            }
            for (int j = from + 1; j < upTo; j++) {
                if ((s[hintsAt() + j] & 255) <= (s[hintsAt() + j - 1] & 255)) {
                    return false;
                }
            }
            from = upTo;
        }
        for (int j = from; j < w; j++) {
            if (s[hintsAt() + j] != 0) {
                return false;
            }
        }
        return true;
    }
}
