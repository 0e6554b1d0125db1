import java.util.Arrays;
import java.util.Random;

/**
 * Promise 15 at the edges of SIGN. The masks, the hash and the ball of a try come of r, K and the hash in SECRET
 * alone: so the other parts of SECRET can be made for a try that has been seen, and they are made here such that
 * it just comes through, or just does not.
 */
public final class DsaSignTest {
    private static final int MOST_MESSAGES = 100_000;
    /** The number of a message that no try of 814 signs, with greatSecret. */
    private static final int IN_VAIN = 2;

    private final int set;
    private final PlainDsa plain;
    private final byte[] start;
    private final Random random = new Random(1);

    /** Which places of which polynomials will do. */
    private interface Places {
        boolean take(int i, int c);
    }

    private DsaSignTest(int set) {
        this.set = set;
        plain = new PlainDsa(set);
        start = Check.join(Check.some(11, 32), Check.some(12, 32), Check.some(13, 64));
    }

    public static void main(String[] args) {
        for (int set = 0; set < 3; set++) {
            DsaSignTest it = new DsaSignTest(set);
            int lastMask = it.plain.l - 1;
            it.masks(1, (i, c) -> i == 0);
            it.masks(-1, (i, c) -> i == lastMask);
            it.masks(1, (i, c) -> c == 0);
            it.masks(-1, (i, c) -> c == 255);
            int lastLow = it.plain.k - 1;
            it.lows(1, false, (i, c) -> i == 0);
            it.lows(-1, false, (i, c) -> i == lastLow);
            it.lows(0, false, (i, c) -> c == 0);
            it.lows(0, false, (i, c) -> c == 255);
            it.lows(-1, true, (i, c) -> true);
            it.asManyHints();
            it.hintsOfOnePolynomial();
            it.anySecrets();
        }
        DsaSignTest first = new DsaSignTest(0);
        first.shifts(1, 0, 0);
        first.shifts(-1, 0, 255);
        first.shifts(-1, 3, 0);
        first.shifts(1, 3, 255);
        first.inVain();
        Check.end("DsaSignTest");
    }

    private int[][] zeros(int n) {
        return new int[n][256];
    }

    private byte[] message(int i) {
        return Check.join(Plain.be(i, 4), Check.some(1, 10));
    }

    private PlainDsa.Try tryOf(int i) {
        return plain.new Try(start, message(i), new byte[32], 0);
    }

    /** A polynomial whose product with the ball is this at this place, by numbers up to `step` each. */
    private static int[] made(int[] ball, int place, int product, int step) {
        int[] f = new int[256];
        int left = Math.abs(product);
        int sign = product < 0 ? -1 : 1;
        for (int j = 0; j < 256 && left > 0; j++) {
            if (ball[j] != 0) {
                int part = Math.min(left, step);
                f[Math.floorMod(place - j, 256)] = sign * part * ball[j] * (j <= place ? 1 : -1);
                left -= part;
            }
        }
        return f;
    }

    /** That a secret of these parts signs as it should: at the first try, or not. */
    private void signs(String what, int message, boolean atOnce, int[][] first, int[][] second, int[][] lows) {
        int tries = signs(what, message, first, second, lows);
        Check.due("set " + set + ": " + what + ", signed at once", tries == 1, atOnce);
    }

    private int signs(String what, int message, int[][] first, int[][] second, int[][] lows) {
        byte[] secret = secret(first, second, lows);
        byte[][] want = plain.sign(secret, message(message), new byte[32]);
        int tries = (want[1][0] & 255) * 256 + (want[1][1] & 255);
        LatticeSuite x = new LatticeSuite();
        Check.put(x, Check.SECRET, secret);
        Check.put(x, Check.MESSAGE, message(message));
        Check.due("set " + set + ": " + what, x.dsaSign(set, -1), tries);
        Check.slotIs("set " + set + ": " + what, x, Check.PACKET, want[0]);
        return tries;
    }

    private byte[] secret(int[][] first, int[][] second, int[][] lows) {
        return plain.secret(Plain.part(start, 0, 32), Plain.part(start, 32, 32), Plain.part(start, 64, 64),
                first, second, lows);
    }

    private void masks(int sign, Places places) {
        Check.says("Terms", "It starts anew (the next a) if a |Z i| is g1 - B or more");
        for (int message = 0; message < MOST_MESSAGES; message++) {
            int[][] y = plain.masks(start, message(message), new byte[32], 0);
            for (int i = 0; i < plain.l; i++) {
                for (int c = 0; c < 256; c++) {
                    boolean near = Math.abs(sign * y[i][c] - plain.g1 + plain.most) < plain.most;
                    if (near && places.take(i, c) && masksAt(message, i, c, sign)) {
                        return;
                    }
                }
            }
        }
        Check.holds("a message with such a Z was found", false);
    }

    /** Whether the number of Z at this place could be brought to the bound with this message. */
    private boolean masksAt(int message, int i, int c, int sign) {
        int bound = plain.g1 - plain.most;
        PlainDsa.Try it = tryOf(message).with(zeros(plain.l), zeros(plain.k), zeros(plain.k));
        if (it.mostLow >= plain.g2 - plain.most) {
            return false;
        }
        int[][] below = maskTo(it, i, c, sign * (bound - 1));
        int[][] at = maskTo(it, i, c, sign * bound);
        if (below.length == 0 || at.length == 0) {
            return false;
        }
        String what = "a Z at " + i + ", " + c + " of " + sign;
        signs(what + " (g1 - B - 1)", message, true, below, zeros(plain.k), zeros(plain.k));
        signs(what + " (g1 - B)", message, false, at, zeros(plain.k), zeros(plain.k));
        return true;
    }

    /** An S that makes one number of Z this, and all others smaller; none, if there is none. */
    private int[][] maskTo(PlainDsa.Try it, int i, int c, int aim) {
        int by = aim - it.y[i][c];
        if (Math.abs(by) > plain.most) {
            return new int[0][];
        }
        int[][] first = zeros(plain.l);
        first[i] = made(it.ball, c, by, plain.e);
        it.with(first, zeros(plain.k), zeros(plain.k));
        return it.z[i][c] == aim && it.mostZ == Math.abs(aim) && only(it.z, Math.abs(aim)) ? first : new int[0][];
    }

    private static boolean only(int[][] all, int most) {
        int count = 0;
        for (int[] f : all) {
            for (int v : f) {
                count += Math.abs(v) == most ? 1 : 0;
            }
        }
        return count == 1;
    }

    /** Of either sign, if it is 0. At the top, next to q, LOW is less by 1 than the number modulo 2 g2. */
    private void lows(int sign, boolean top, Places places) {
        Check.says("Terms", "or a |LOW of X i| g2 - B or more");
        for (int message = 0; message < MOST_MESSAGES; message++) {
            if (!smallMasks(message)) {
                continue;
            }
            PlainDsa.Try it = tryOf(message);
            for (int i = 0; i < plain.k; i++) {
                for (int c = 0; c < 256; c++) {
                    int low = plain.low(it.w[i][c]);
                    boolean wanted = places.take(i, c) && top == it.w[i][c] > PlainDsa.Q - 1 - plain.g2
                            && (sign == 0 || sign > 0 == low > 0);
                    if (wanted && lowsAt(it, message, i, c, low > 0 ? 1 : -1)) {
                        return;
                    }
                }
            }
        }
        Check.holds("a message with such a LOW was found", false);
    }

    private boolean smallMasks(int message) {
        for (int[] f : plain.masks(start, message(message), new byte[32], 0)) {
            for (int v : f) {
                if (Math.abs(v) >= plain.g1 - plain.most) {
                    return false;
                }
            }
        }
        return true;
    }

    /** Whether LOW of the number of X at this place could be brought to the bound with this message. */
    private boolean lowsAt(PlainDsa.Try it, int message, int i, int c, int sign) {
        int bound = plain.g2 - plain.most;
        int[][] below = lowTo(it, i, c, sign * (bound - 1));
        int[][] at = lowTo(it, i, c, sign * bound);
        if (below.length == 0 || at.length == 0) {
            return false;
        }
        String what = "a LOW at " + i + ", " + c + " of " + sign;
        signs(what + " (g2 - B - 1)", message, true, zeros(plain.l), below, zeros(plain.k));
        signs(what + " (g2 - B)", message, false, zeros(plain.l), at, zeros(plain.k));
        return true;
    }

    /** An E that makes LOW of one number of X this, and all others smaller; none, if there is none. */
    private int[][] lowTo(PlainDsa.Try it, int i, int c, int aim) {
        int by = plain.low(it.w[i][c]) - aim;
        if (Math.abs(by) > plain.most) {
            return new int[0][];
        }
        int[][] second = zeros(plain.k);
        second[i] = made(it.ball, c, by, plain.e);
        it.with(zeros(plain.l), second, zeros(plain.k));
        return plain.low(it.x[i][c]) == aim && it.mostLow == Math.abs(aim) ? second : new int[0][];
    }

    /** In sets 1 and 2 no T0 of 13 bits comes so far. */
    private void shifts(int sign, int i, int c) {
        Check.says("Terms", "or if a |b T0 i| is g2 or more");
        for (int message = 0; message < MOST_MESSAGES; message++) {
            PlainDsa.Try it = tryOf(message);
            int[][] below = zeros(plain.k);
            int[][] at = zeros(plain.k);
            below[i] = made(it.ball, c, sign * (plain.g2 - 1), 4095);
            at[i] = made(it.ball, c, sign * plain.g2, 4095);
            it.with(zeros(plain.l), zeros(plain.k), at);
            boolean onlyShift = it.mostShift == plain.g2 && it.hints <= plain.w;
            if (onlyShift && it.with(zeros(plain.l), zeros(plain.k), below).holds()) {
                String what = "a b T0 at " + i + ", " + c + " of " + sign;
                signs(what + " (g2 - 1)", message, true, zeros(plain.l), zeros(plain.k), below);
                signs(what + " g2", message, false, zeros(plain.l), zeros(plain.k), at);
                return;
            }
        }
        Check.holds("a message with such a b T0 was found", false);
    }

    private void asManyHints() {
        Check.says("Terms", "or more than w coefficients of all are HINTS");
        int message = goodMessage();
        PlainDsa.Try it = tryOf(message);
        signs("w HINTS", message, true, zeros(plain.l), zeros(plain.k), withHints(it, plain.w));
        signs("w - 1 HINTS", message, true, zeros(plain.l), zeros(plain.k), withHints(it, plain.w - 1));
        signs("w + 1 HINTS", message, false, zeros(plain.l), zeros(plain.k), withHints(it, plain.w + 1));
        signs("no HINT", message, true, zeros(plain.l), zeros(plain.k), zeros(plain.k));
    }

    /** A message whose first try comes through where S, E and T0 are zeros. */
    private int goodMessage() {
        int message = 0;
        while (!tryOf(message).with(zeros(plain.l), zeros(plain.k), zeros(plain.k)).holds()) {
            message++;
        }
        return message;
    }

    /** A T0 with which the try has so many hints. */
    private int[][] withHints(PlainDsa.Try it, int hints) {
        int[][] lows = zeros(plain.k);
        do {
            double share = 0.3 + 0.7 * random.nextDouble();
            for (int[] f : lows) {
                for (int c = 0; c < 256; c++) {
                    f[c] = random.nextDouble() < share ? (random.nextBoolean() ? 4095 : -4095) : 0;
                }
            }
            it.with(zeros(plain.l), zeros(plain.k), lows);
        } while (it.hints != hints || it.mostShift >= plain.g2);
        return lows;
    }

    private void hintsOfOnePolynomial() {
        Check.says("Terms", "for polynomial after polynomial the places of its HINTS, rising; zeros;"
                + " from byte w on for each polynomial how many there are up to its end");
        int message = goodMessage();
        PlainDsa.Try it = tryOf(message);
        int[] many = withHints(it, plain.w)[0];
        for (int i = 0; i < plain.k; i += plain.k - 1) {
            int[][] lows = zeros(plain.k);
            lows[i] = many;
            Check.holds("there are hints", it.with(zeros(plain.l), zeros(plain.k), lows).hints > 0);
            signs("HINTS in polynomial " + i, message, true, zeros(plain.l), zeros(plain.k), lows);
        }
        hintAt(0, 0);
        hintAt(0, 255);
        hintAt(plain.k - 1, 0);
        hintAt(plain.k - 1, 255);
    }

    /** A T0 that moves HIGH at this place. */
    private void hintAt(int i, int c) {
        for (int message = 0; message < MOST_MESSAGES; message++) {
            PlainDsa.Try it = tryOf(message);
            int low = plain.low(it.w[i][c]);
            int far = plain.g2 - Math.abs(low) + 2;
            int[][] lows = zeros(plain.k);
            lows[i] = made(it.ball, c, low > 0 ? far : -far, 4095);
            if (it.with(zeros(plain.l), zeros(plain.k), lows).holds() && it.hinted[i][c]) {
                signs("a HINT at " + i + ", " + c, message, true, zeros(plain.l), zeros(plain.k), lows);
                return;
            }
        }
        Check.holds("a message for a hint at " + i + ", " + c + " was found", false);
    }

    /** The greatest and the least numbers that the bits can hold, though no keys have the least. */
    private void anySecrets() {
        Check.says("Terms", "UNPACK turns that round (any bits).");
        int least = plain.e - (1 << plain.smallBits) + 1;
        for (int v : new int[] {plain.e, least}) {
            signs("an S of " + v, v + 20, filled(plain.l, v), zeros(plain.k), zeros(plain.k));
            signs("an E of " + v, v + 20, zeros(plain.l), filled(plain.k, v), zeros(plain.k));
        }
        for (int v : new int[] {4096, -4095}) {
            int[][] lows = zeros(plain.k);
            for (int c = 0; c < 256; c += 3) {
                lows[c % plain.k][c] = v;
            }
            signs("a T0 of " + v, 9, zeros(plain.l), zeros(plain.k), lows);
        }
    }

    private static int[][] filled(int n, int v) {
        int[][] all = new int[n][256];
        for (int[] f : all) {
            Arrays.fill(f, v);
        }
        return all;
    }

    /** A secret of set 0 with a T0 so great that there are mostly too many hints. */
    static byte[] greatSecret() {
        DsaSignTest it = new DsaSignTest(0);
        Random own = new Random(2);
        int[][] lows = it.zeros(it.plain.k);
        for (int[] f : lows) {
            for (int c = 0; c < 256; c++) {
                f[c] = own.nextBoolean() ? 4096 : -4095;
            }
        }
        return it.secret(it.zeros(it.plain.l), it.zeros(it.plain.k), lows);
    }

    /** A message that no try of 814 signs with that secret. */
    static byte[] messageInVain() {
        return new DsaSignTest(0).message(IN_VAIN);
    }

    /** In runs/dsa.txt there is a message that try 814 signs, and one that try 815 would. */
    private void inVain() {
        Check.says("Terms", "After 814 of them: ArithmeticException.");
        byte[] secret = greatSecret();
        Check.fails("SIGN", Check.ARITHMETIC, () -> plain.sign(secret, messageInVain(), new byte[32]));
        Check.failsAndChangesNothing("dsaSign", Check.ARITHMETIC, x -> {
            Check.fill(x);
            x.end(Check.SPARE, 33);
            Check.put(x, Check.SECRET, secret);
            Check.put(x, Check.MESSAGE, messageInVain());
            x.resize(Check.RANDOM, 0);
            x.feed(1, 2, 3, 4, 5);
        }, x -> x.dsaSign(0, -1));
    }
}
