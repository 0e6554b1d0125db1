import java.util.Arrays;

/** Promise 16 at the edges of VERIFY: SHARED tells how far it came, and what came of it. */
public final class DsaVerifyTest {
    private static final int Q = PlainDsa.Q;
    /** Seeds whose first polynomial meets, among the numbers of 23 bits, q - 1 and q. */
    private static final int SEED_OF_LAST = 29982;
    private static final int SEED_OF_Q = 73831;

    private final int set;
    private final PlainDsa plain;
    private final byte[] noTop;

    private DsaVerifyTest(int set) {
        this.set = set;
        plain = new PlainDsa(set);
        noTop = Arrays.copyOf(Check.some(21, 32), plain.publicSize());
    }

    public static void main(String[] args) {
        for (int set = 0; set < 3; set++) {
            DsaVerifyTest it = new DsaVerifyTest(set);
            it.goodAndChanged();
            it.sharedStays();
            it.sizes();
            it.countsDoNotFall();
            it.countsAreAtMostW();
            it.placesRise();
            it.zerosBehindPlaces();
            it.masksAreSmall();
            it.highsAtTheirEnds();
            it.samples();
            it.balls();
            it.anyPublic();
        }
        Check.end("DsaVerifyTest");
    }

    /** A packet of any C, of Z and of hints, the places of polynomial after polynomial. */
    private byte[] packet(int[][] z, int[][] places) {
        byte[] s = Check.some(31, plain.c);
        for (int[] f : z) {
            s = Check.join(s, PlainDsa.pack(f, plain.g1, plain.maskBits));
        }
        byte[] hints = new byte[plain.w + plain.k];
        int next = 0;
        for (int i = 0; i < plain.k; i++) {
            for (int j = 0; i < places.length && j < places[i].length; j++) {
                hints[next++] = (byte) places[i][j];
            }
            hints[plain.w + i] = (byte) next;
        }
        return Check.join(s, hints);
    }

    private int[][] someMasks() {
        int[][] z = new int[plain.l][256];
        for (int i = 0; i < plain.l; i++) {
            for (int c = 0; c < 256; c++) {
                z[i][c] = (i * 7919 + c * 104729 + c * c) % (plain.g1 - plain.most) * (c % 2 == 0 ? 1 : -1);
            }
        }
        return z;
    }

    private byte[] withHints(int... hints) {
        byte[] s = packet(someMasks(), new int[0][]);
        for (int i = 0; i < hints.length; i++) {
            s[plain.hintsAt() + i] = (byte) hints[i];
        }
        return s;
    }

    private byte[] withCounts(byte[] s, int... counts) {
        for (int i = 0; i < plain.k; i++) {
            s[plain.hintsAt() + plain.w + i] = (byte) counts[Math.min(i, counts.length - 1)];
        }
        return s;
    }

    /** That dsaVerify comes so far with this packet, or not, and SHARED with it. */
    private void comes(String what, boolean soFar, byte[] key, byte[] packet) {
        byte[] message = Check.some(2, 50);
        LatticeSuite x = new LatticeSuite();
        Check.put(x, Check.PUBLIC, key);
        Check.put(x, Check.PACKET, packet);
        Check.put(x, Check.MESSAGE, message);
        Check.put(x, Check.SHARED, Check.some(3, 33));
        byte[] want = plain.verify(key, message, packet);
        String all = "set " + set + ": " + what;
        Check.due(all + ", it should come so far", want.length > 0, soFar);
        Check.due(all, x.dsaVerify(set, -1), false);
        Check.slotIs(all + ", SHARED", x, Check.SHARED, soFar ? want : Check.some(3, 33));
    }

    private void goodAndChanged() {
        Check.says("Promise 16", "If it comes so far SHARED is what is compared with C;");
        LatticeSuite x = new LatticeSuite();
        Check.put(x, Check.RANDOM, Check.some(set, 32));
        x.dsaKeys(set);
        Check.put(x, Check.MESSAGE, Check.some(7, 70));
        Check.put(x, Check.CONTEXT, Check.some(8, 10));
        x.dsaSign(set, 0);
        x.resize(Check.SHARED, 100);
        Check.holds("dsaVerify", x.dsaVerify(set, 0));
        byte[] hash = Check.get(x, Check.SHARED);
        Check.due("SHARED", hash.length, plain.c);
        x.copy(Check.PACKET, Check.SPARE);
        x.resize(Check.SPARE, plain.c);
        Check.holds("it is C", x.same(Check.SPARE, Check.SHARED));
        int[][] changes = {
            {Check.MESSAGE, 0}, {Check.MESSAGE, 69}, {Check.CONTEXT, 0}, {Check.CONTEXT, 9}, {Check.PUBLIC, 0},
            {Check.PUBLIC, 31}, {Check.PUBLIC, 32}, {Check.PUBLIC, plain.publicSize() - 1}, {Check.PACKET, 0},
            {Check.PACKET, plain.c - 1}, {Check.PACKET, plain.c}, {Check.PACKET, plain.hintsAt() - 3},
        };
        for (int[] change : changes) {
            x.resize(Check.SHARED, 0);
            x.alter(change[0], change[1], 4);
            Check.holds("a change in " + change[0] + " at " + change[1], !x.dsaVerify(set, 0));
            Check.due("SHARED is there all the same", x.length(Check.SHARED), plain.c);
            Check.holds("and not C", !x.same(Check.SHARED, Check.SPARE) || change[0] == Check.PACKET);
            x.alter(change[0], change[1], 4);
        }
        Check.holds("all changed back", x.dsaVerify(set, 0));
        x.resize(Check.MESSAGE, 69);
        Check.holds("a byte less in MESSAGE", !x.dsaVerify(set, 0));
        x.resize(Check.MESSAGE, 70);
        x.resize(Check.CONTEXT, 9);
        Check.holds("a byte less in CONTEXT", !x.dsaVerify(set, 0));
    }

    private void sharedStays() {
        Check.says("Promise 16", "where it is false before that SHARED stays.");
        byte[] good = packet(someMasks(), new int[0][]);
        byte[] tooGreat = good.clone();
        Arrays.fill(tooGreat, plain.c, plain.c + 20, (byte) 0);
        byte[][] packets = {
            Arrays.copyOf(good, good.length - 1), withCounts(withHints(), plain.w + 1),
            withCounts(withHints(5, 6), 2, 1), withCounts(withHints(5, 5), 2), withHints(5), tooGreat,
        };
        for (byte[] packet : packets) {
            for (int size : new int[] {0, 1, plain.c, Check.FULL}) {
                LatticeSuite x = new LatticeSuite();
                byte[] shared = Check.putMany(x, Check.SHARED, 3, size);
                Check.put(x, Check.PUBLIC, noTop);
                Check.put(x, Check.PACKET, packet);
                Check.due("dsaVerify", x.dsaVerify(set, 0), false);
                Check.slotIs("SHARED of " + size, x, Check.SHARED, shared);
            }
        }
    }

    private void sizes() {
        Check.says("Terms", "false unless s has so many BYTES");
        byte[] s = packet(someMasks(), new int[0][]);
        comes("all BYTES", true, noTop, s);
        for (int n : new int[] {0, 1, plain.c, s.length - 1, s.length + 1}) {
            comes(n + " BYTES", false, noTop, Arrays.copyOf(s, n));
        }
        LatticeSuite x = new LatticeSuite();
        x.resize(Check.PUBLIC, plain.publicSize());
        x.resize(Check.PACKET, Check.FULL);
        Check.holds("a full PACKET", !x.dsaVerify(set, 0));
        Check.due("SHARED stays", x.length(Check.SHARED), 0);
    }

    private void countsDoNotFall() {
        Check.says("Terms", "the counts at its end do not fall");
        comes("counts that stay", true, noTop, withCounts(withHints(5), 1));
        comes("counts that rise", true, noTop, withCounts(withHints(5, 5, 5), 1, 2, 3));
        for (int i = 1; i < plain.k; i++) {
            int[] counts = new int[plain.k];
            Arrays.fill(counts, 2);
            counts[i] = 1;
            comes("a count that falls at " + i, false, noTop, withCounts(withHints(5, 6), counts));
        }
        int[] last = new int[plain.k];
        Arrays.fill(last, 1);
        last[plain.k - 1] = 0;
        comes("the last count falls to 0", false, noTop, withCounts(withHints(5), last));
    }

    private void countsAreAtMostW() {
        Check.says("Terms", "and are at most w");
        int[] places = new int[plain.w];
        for (int i = 0; i < plain.w; i++) {
            places[i] = 256 - plain.w + i;
        }
        comes("w in the first", true, noTop, withCounts(withHints(places), plain.w));
        int[] last = new int[plain.k];
        last[plain.k - 1] = plain.w;
        comes("w in the last", true, noTop, withCounts(withHints(places), last));
        for (int more : new int[] {plain.w + 1, 128, 255}) {
            comes(more + " in the first", false, noTop, withCounts(withHints(places), more));
            last[plain.k - 1] = more;
            comes(more + " in the last", false, noTop, withCounts(withHints(places), last));
            last[plain.k - 1] = plain.w;
            last[plain.k - 2] = more;
            comes(more + " before the last", false, noTop, withCounts(withHints(places), last));
            last[plain.k - 2] = 0;
        }
    }

    private void placesRise() {
        Check.says("Terms", "the places of each polynomial rise");
        comes("0 and 255", true, noTop, withCounts(withHints(0, 255), 2));
        comes("127 and 128", true, noTop, withCounts(withHints(127, 128), 2));
        comes("a place again", false, noTop, withCounts(withHints(9, 9), 2));
        comes("place 0 again", false, noTop, withCounts(withHints(0, 0), 2));
        comes("a place that falls", false, noTop, withCounts(withHints(9, 8), 2));
        comes("255 and 0", false, noTop, withCounts(withHints(255, 0), 2));
        comes("128 and 127", false, noTop, withCounts(withHints(128, 127), 2));
        comes("the last of three falls", false, noTop, withCounts(withHints(1, 9, 8), 3));
        comes("a place again in the next polynomial", true, noTop, withCounts(withHints(9, 9), 1, 2));
        comes("a place that falls in the next polynomial", true, noTop, withCounts(withHints(255, 0), 1, 2));
        int[] counts = new int[plain.k];
        counts[plain.k - 1] = 2;
        comes("rising in the last", true, noTop, withCounts(withHints(8, 9), counts));
        comes("falling in the last", false, noTop, withCounts(withHints(9, 8), counts));
    }

    private void zerosBehindPlaces() {
        Check.says("Terms", "all BYTES between the last of them and byte w are 0");
        comes("no place, and zeros", true, noTop, withHints());
        for (int at : new int[] {0, 1, plain.w - 1}) {
            int[] hints = new int[plain.w];
            hints[at] = 1;
            comes("no place, and a one at " + at, false, noTop, withHints(hints));
            hints[at] = 128;
            comes("no place, and 128 at " + at, false, noTop, withHints(hints));
        }
        int[] hints = new int[plain.w];
        hints[0] = 3;
        hints[1] = 4;
        comes("two places, and zeros", true, noTop, withCounts(withHints(hints), 2));
        comes("a place more than the counts", false, noTop, withCounts(withHints(hints), 1));
        hints[plain.w - 1] = 255;
        comes("the last of them is not 0", false, noTop, withCounts(withHints(hints), 2));
    }

    private void masksAreSmall() {
        Check.says("Terms", "and each |Z i| is below g1 - B");
        int bound = plain.g1 - plain.most;
        int[][] ends = {{0, 0}, {0, 255}, {plain.l - 1, 0}, {plain.l - 1, 255}, {1, 77}};
        for (int[] end : ends) {
            int[] taken = {bound - 1, 1 - bound};
            int[] refused = {bound, -bound, bound + 1, -bound - 1, plain.g1, 1 - plain.g1};
            for (int v : taken) {
                int[][] z = someMasks();
                z[end[0]][end[1]] = v;
                comes("a Z of " + v, true, noTop, packet(z, new int[0][]));
            }
            for (int v : refused) {
                int[][] z = new int[plain.l][256];
                z[end[0]][end[1]] = v;
                comes("a Z of " + v, false, noTop, packet(z, new int[0][]));
            }
        }
    }

    /** A number of X, what HIGH is there, and what it is where there is a hint. */
    private void highsAtTheirEnds() {
        Check.says("Terms", "at a HINT HIGH is one more (LOW above 0) or one less, modulo M");
        int g = plain.g2;
        int m = (Q - 1) / (2 * g);
        int[][] ends = {
            {0, 0, m - 1}, {1, 0, 1}, {g - 1, 0, 1}, {g, 0, 1}, {g + 1, 1, 0}, {2 * g - 1, 1, 0}, {2 * g, 1, 0},
            {2 * g + 1, 1, 2}, {3 * g, 1, 2}, {3 * g + 1, 2, 1}, {Q - 1 - 2 * g - 1, m - 1, m - 2},
            {Q - 1 - 2 * g, m - 1, m - 2}, {Q - 2 * g, m - 1, 0}, {Q - 2 - g, m - 1, 0}, {Q - 1 - g, m - 1, 0},
            {Q - g, 0, m - 1}, {Q - 2, 0, m - 1}, {Q - 1, 0, m - 1},
        };
        for (int[] end : ends) {
            Check.due("HIGH of " + end[0], plain.high(end[0]), end[1]);
            int by = plain.low(end[0]) > 0 ? 1 : -1;
            Check.due("HIGH of " + end[0] + " with a hint", Math.floorMod(end[1] + by, m), end[2]);
            oneOfThese(end[0]);
        }
    }

    /** A packet with which one number of X is this one, with a hint there and without. */
    private void oneOfThese(int r) {
        for (int i = 0; i < plain.k; i++) {
            int[] row = PlainDsa.unntt(plain.matrixOf(Plain.part(noTop, 0, 32))[i][0]);
            for (int c = 0; c < 256; c++) {
                long v = Math.floorMod(inverse(row[c]) * r, (long) Q);
                v = v > Q / 2 ? v - Q : v;
                if (Math.abs(v) < plain.g1 - plain.most) {
                    int[][] z = new int[plain.l][256];
                    z[0][0] = (int) v;
                    Check.due("the number", plain.recovered(noTop, z, new int[256])[i][c], r);
                    int[][] places = new int[plain.k][0];
                    comes("without a hint at " + r, true, noTop, packet(z, places));
                    places[i] = new int[] {c};
                    comes("with a hint at " + r, true, noTop, packet(z, places));
                    return;
                }
            }
        }
        Check.holds("a packet for " + r + " was found", false);
    }

    private static long inverse(long v) {
        long answer = 1;
        for (int bit = 22; bit >= 0; bit--) {
            answer = answer * answer % Q;
            if ((Q - 2 >> bit & 1) == 1) {
                answer = answer * v % Q;
            }
        }
        return answer;
    }

    private void samples() {
        Check.says("Terms", "each that is below q is the next coefficient; at most 298 times, else ArithmeticException");
        for (int number : new int[] {SEED_OF_LAST, SEED_OF_Q}) {
            byte[] key = Arrays.copyOf(Plain.be(number, 4), plain.publicSize());
            byte[] from = Plain.shake128(Check.join(Plain.part(key, 0, 32), Plain.of(0, 0)), 3 * 256);
            boolean met = false;
            for (int i = 0; i < from.length; i += 3) {
                int v = (from[i] & 255) + 256 * (from[i + 1] & 255) + 65536 * (from[i + 2] & 127);
                met |= v == (number == SEED_OF_Q ? Q : Q - 1);
            }
            Check.holds("the number is met", met);
            comes("its matrix", true, key, packet(someMasks(), new int[0][]));
        }
    }

    /** Each C is good for a ball; here are those at whose balls a byte is i, and one is i + 1. */
    private void balls() {
        Check.says("Terms", "BYTES are taken until one, j, is not above i");
        byte[] key = Check.join(Check.some(21, 32), Check.some(22, plain.publicSize() - 32));
        for (int by = 0; by <= 1; by++) {
            byte[] s = packet(someMasks(), new int[0][]);
            while (!meets(Plain.part(s, 0, plain.c), by)) {
                s[0]++;
            }
            comes("a byte of the ball is i + " + by, true, key, s);
        }
        byte[] s = packet(someMasks(), new int[0][]);
        for (int i = 0; i < 20; i++) {
            s[1] = (byte) i;
            comes("a ball", true, key, s);
        }
    }

    private boolean meets(byte[] c, int by) {
        byte[] from = Plain.shake256(c, 8 + 121);
        int at = 8;
        for (int i = 256 - plain.t; i < 256; i++) {
            while ((from[at] & 255) > i) {
                if (by == 1 && (from[at] & 255) == i + 1) {
                    return true;
                }
                at++;
            }
            if (by == 0 && (from[at] & 255) == i) {
                return true;
            }
            at++;
        }
        return false;
    }

    private void anyPublic() {
        Check.says("Promise 16", "VERIFY(PUBLIC, SIGNED x, PACKET).");
        for (int fill : new int[] {0, 1, 255}) {
            byte[] key = new byte[plain.publicSize()];
            Arrays.fill(key, (byte) fill);
            comes("a PUBLIC of bytes " + fill, true, key, packet(someMasks(), new int[][] {{0, 1, 255}, {128}}));
        }
    }
}
