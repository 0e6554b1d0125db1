import java.util.Arrays;
import java.util.Random;

/** Promises 14 to 16: the signatures over modules. Their bytes are due to src/test/runs/dsa.txt. */
public final class DsaTest {
    private static final int[] PUBLIC_SIZES = {1312, 1952, 2592};
    private static final int[] SECRET_SIZES = {2560, 4032, 4896};
    private static final int[] PACKET_SIZES = {2420, 3309, 4627};
    private static final int[] HASHES = {32, 48, 64};
    private static final int[] HINTS = {80, 55, 75};
    private static final int[] POLYNOMIALS = {4, 6, 8};

    public static void main(String[] args) {
        for (int set = 0; set < 3; set++) {
            wholeWay(set);
            changes(set);
            withoutRandom(set);
            contexts(set);
            wrongKeysCalls(set);
            wrongSigns(set);
            wrongVerifies(set);
            hintsOutOfOrder(set);
        }
        tries();
        wrongNumbers();
        Check.end("DsaTest");
    }

    private static LatticeSuite withKeys(int set) {
        LatticeSuite x = new LatticeSuite();
        makeKeys(x, set);
        return x;
    }

    private static void makeKeys(LatticeSuite x, int set) {
        Check.put(x, Check.RANDOM, Check.some(set, 32));
        x.dsaKeys(set);
        Check.put(x, Check.MESSAGE, Check.some(7, 70));
        Check.put(x, Check.CONTEXT, Check.some(8, 10));
    }

    private static void makePacket(LatticeSuite x, int set) {
        makeKeys(x, set);
        x.dsaSign(set, 0);
    }

    private static void wholeWay(int set) {
        LatticeSuite x = new LatticeSuite();
        Check.put(x, Check.RANDOM, Check.some(set, 32));
        Check.due("dsaKeys", x.dsaKeys(set), SECRET_SIZES[set]);
        Check.due("SECRET", x.length(Check.SECRET), SECRET_SIZES[set]);
        Check.due("PUBLIC", x.length(Check.PUBLIC), PUBLIC_SIZES[set]);
        Check.put(x, Check.MESSAGE, Check.some(1, 200));
        Check.put(x, Check.CONTEXT, Check.some(2, 20));
        for (int how = -1; how <= 12; how++) {
            Check.holds("dsaSign", x.dsaSign(set, how) >= 1);
            Check.due("PACKET", x.length(Check.PACKET), PACKET_SIZES[set]);
            for (int other = -1; other <= 12; other++) {
                Check.due("dsaVerify " + other + " of " + how, x.dsaVerify(set, other), other == how);
            }
        }
    }

    private static void changes(int set) {
        LatticeSuite x = new LatticeSuite();
        makePacket(x, set);
        x.resize(Check.SHARED, 0);
        Check.holds("dsaVerify", x.dsaVerify(set, 0));
        Check.bytes("SHARED is C", Check.get(x, Check.SHARED),
                Arrays.copyOf(Check.get(x, Check.PACKET), HASHES[set]));
        for (int[] change : new int[][] {
            {Check.MESSAGE, 69}, {Check.CONTEXT, 9}, {Check.PUBLIC, 0}, {Check.PUBLIC, PUBLIC_SIZES[set] - 1},
            {Check.PACKET, 0}, {Check.PACKET, HASHES[set]},
        }) {
            x.resize(Check.SHARED, 0);
            x.alter(change[0], change[1], 4);
            Check.holds("dsaVerify of a change in " + change[0], !x.dsaVerify(set, 0));
            Check.due("SHARED is there all the same", x.length(Check.SHARED), HASHES[set]);
            x.alter(change[0], change[1], 4);
        }
        Check.holds("dsaVerify of all changed back", x.dsaVerify(set, 0));
        x.resize(Check.MESSAGE, 69);
        Check.holds("dsaVerify of a shorter message", !x.dsaVerify(set, 0));
    }

    /** No RANDOM is 32 zeros. */
    private static void withoutRandom(int set) {
        LatticeSuite x = withKeys(set);
        x.resize(Check.RANDOM, 0);
        int tries = x.dsaSign(set, 0);
        x.copy(Check.PACKET, Check.SPARE);
        x.resize(Check.RANDOM, 32);
        Check.due("dsaSign with zeros", x.dsaSign(set, 0), tries);
        Check.holds("the same signature", x.same(Check.PACKET, Check.SPARE));
        x.alter(Check.RANDOM, 31, 1);
        x.dsaSign(set, 0);
        Check.holds("another signature", !x.same(Check.PACKET, Check.SPARE));
        Check.holds("good, too", x.dsaVerify(set, 0));
    }

    private static void contexts(int set) {
        LatticeSuite x = withKeys(set);
        x.resize(Check.CONTEXT, 255);
        x.dsaSign(set, 0);
        Check.holds("a context of 255", x.dsaVerify(set, 0));
        x.resize(Check.CONTEXT, 256);
        for (int how = 0; how <= 12; how++) {
            int it = how;
            Check.fails("dsaSign with a context of 256", Check.STATE, () -> x.dsaSign(set, it));
            Check.fails("dsaVerify with a context of 256", Check.STATE, () -> x.dsaVerify(set, it));
        }
        x.dsaSign(set, -1);
        x.resize(Check.CONTEXT, 0);
        Check.holds("how -1 does not look at the context", x.dsaVerify(set, -1));
        Check.put(x, Check.MESSAGE, Check.join(new byte[2], Check.some(7, 70)));
        x.dsaSign(set, -1);
        Check.put(x, Check.MESSAGE, Check.some(7, 70));
        Check.holds("how 0 puts two bytes before the message", x.dsaVerify(set, 0));
    }

    private static void wrongKeysCalls(int set) {
        for (int n : new int[] {0, 31, 33, 64}) {
            Check.failsAndChangesNothing("dsaKeys with RANDOM of " + n, Check.STATE,
                    x -> x.resize(Check.RANDOM, n), x -> x.dsaKeys(set));
        }
    }

    private static void wrongSigns(int set) {
        for (int n : new int[] {1, 31, 33, 64}) {
            Check.failsAndChangesNothing("dsaSign with RANDOM of " + n, Check.STATE, x -> {
                makePacket(x, set);
                x.resize(Check.RANDOM, n);
                x.resize(Check.SECRET, 1);
            }, x -> x.dsaSign(set, 3));
        }
        for (int n : new int[] {0, SECRET_SIZES[set] - 1, SECRET_SIZES[set] + 1, SECRET_SIZES[(set + 1) % 3]}) {
            Check.failsAndChangesNothing("dsaSign with SECRET of " + n, Check.UNSUPPORTED, x -> {
                makePacket(x, set);
                x.resize(Check.SECRET, n);
            }, x -> x.dsaSign(set, 3));
        }
    }

    private static void wrongVerifies(int set) {
        for (int n : new int[] {0, PUBLIC_SIZES[set] - 1, PUBLIC_SIZES[set] + 1, PUBLIC_SIZES[(set + 1) % 3]}) {
            Check.failsAndChangesNothing("dsaVerify with PUBLIC of " + n, Check.UNSUPPORTED, x -> {
                makePacket(x, set);
                x.resize(Check.PUBLIC, n);
            }, x -> x.dsaVerify(set, 0));
        }
        LatticeSuite x = new LatticeSuite();
        makePacket(x, set);
        x.resize(Check.RANDOM, 5);
        Check.holds("dsaVerify does not look at RANDOM", x.dsaVerify(set, 0));
        x.resize(Check.SHARED, 3);
        for (int n : new int[] {0, PACKET_SIZES[set] - 1, PACKET_SIZES[set] + 1}) {
            x.resize(Check.PACKET, n);
            Check.holds("dsaVerify with PACKET of " + n, !x.dsaVerify(set, 0));
            Check.due("SHARED stays", x.length(Check.SHARED), 3);
        }
    }

    /** From zeros, in which each Z is g1, through a Z of zeros to hints of each wrong form. */
    private static void hintsOutOfOrder(int set) {
        int w = HINTS[set];
        int k = POLYNOMIALS[set];
        LatticeSuite x = withKeys(set);
        x.resize(Check.SHARED, 1);
        x.resize(Check.PACKET, PACKET_SIZES[set]);
        Check.holds("Z is too great", !x.dsaVerify(set, 0));
        Check.due("SHARED stays", x.length(Check.SHARED), 1);
        byte[] packet = new byte[PACKET_SIZES[set]];
        int places = PACKET_SIZES[set] - w - k;
        zeroMasks(set, packet, places);
        hintsAre(set, packet, true, "no hint");
        packet[places] = 200 - 256;
        hintsAre(set, packet, false, "a place behind the last count");
        Arrays.fill(packet, places + w, packet.length, (byte) 1);
        hintsAre(set, packet, true, "one hint");
        packet[packet.length - 1] = 0;
        hintsAre(set, packet, false, "counts fall");
        packet[packet.length - 1] = 2;
        hintsAre(set, packet, true, "a place that does not rise in the next polynomial");
        packet[packet.length - 2] = 2;
        Arrays.fill(packet, places + w, packet.length - 2, (byte) 0);
        hintsAre(set, packet, false, "places that fall");
        packet[places + 1] = 200 - 256;
        hintsAre(set, packet, false, "places that are the same");
        packet[places + 1] = 201 - 256;
        hintsAre(set, packet, true, "places that rise");
        for (int i = 0; i < w; i++) {
            packet[places + i] = (byte) (i + 1);
        }
        packet[packet.length - 2] = (byte) w;
        packet[packet.length - 1] = (byte) w;
        hintsAre(set, packet, true, "as many as may be");
        packet[packet.length - 1] = (byte) (w + 1);
        hintsAre(set, packet, false, "one more");
        packet[packet.length - 1] = -1;
        hintsAre(set, packet, false, "255");
    }

    /** Each number g1, so that each Z is 0: in each 18 or 20 bits the highest alone. */
    private static void zeroMasks(int set, byte[] packet, int end) {
        int bits = set == 0 ? 18 : 20;
        int first = HASHES[set] * 8;
        for (int bit = first + bits - 1; bit < 8 * end; bit += bits) {
            packet[bit / 8] |= (byte) (1 << bit % 8);
        }
    }

    private static void hintsAre(int set, byte[] packet, boolean good, String what) {
        LatticeSuite x = withKeys(set);
        Check.put(x, Check.PACKET, packet);
        Check.holds("dsaVerify: " + what, !x.dsaVerify(set, 0));
        Check.due("SHARED: " + what, x.length(Check.SHARED), good ? HASHES[set] : 0);
    }

    /** A secret with a T0 so great that there are always too many hints: 814 tries are all in vain. */
    private static void tries() {
        byte[] secret = new byte[SECRET_SIZES[0]];
        int start = SECRET_SIZES[0] - 4 * 416;
        Random random = new Random(1);
        for (int i = 0; i < 1024; i++) {
            boolean low = random.nextBoolean();
            for (int bit = 13 * i; low && bit < 13 * i + 13; bit++) {
                secret[start + bit / 8] |= (byte) (1 << bit % 8);
            }
        }
        Check.failsAndChangesNothing("dsaSign in vain", Check.ARITHMETIC, x -> {
            Check.put(x, Check.SECRET, secret);
            x.resize(Check.PACKET, 9);
        }, x -> x.dsaSign(0, 0));
    }

    private static void wrongNumbers() {
        LatticeSuite x = withKeys(0);
        x.resize(Check.CONTEXT, 300);
        for (int bad : new int[] {-1, 3, Integer.MIN_VALUE, Integer.MAX_VALUE}) {
            Check.fails("dsaKeys(" + bad + ")", Check.ARGUMENT, () -> x.dsaKeys(bad));
            Check.fails("dsaSign(" + bad + ", 0)", Check.ARGUMENT, () -> x.dsaSign(bad, 0));
            Check.fails("dsaVerify(" + bad + ", 0)", Check.ARGUMENT, () -> x.dsaVerify(bad, 0));
        }
        for (int bad : new int[] {-2, 13, Integer.MIN_VALUE, Integer.MAX_VALUE}) {
            Check.fails("dsaSign(0, " + bad + ")", Check.ARGUMENT, () -> x.dsaSign(0, bad));
            Check.fails("dsaVerify(0, " + bad + ")", Check.ARGUMENT, () -> x.dsaVerify(0, bad));
        }
    }
}
