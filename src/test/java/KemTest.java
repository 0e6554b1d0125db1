import java.util.Arrays;

/** Promises 11 to 13: the key encapsulation. Its bytes are due to src/test/runs/kem.txt. */
public final class KemTest {
    private static final int[] PUBLIC_SIZES = {800, 1184, 1568};
    private static final int[] SECRET_SIZES = {1632, 2400, 3168};
    private static final int[] PACKET_SIZES = {768, 1088, 1568};

    public static void main(String[] args) {
        for (int set = 0; set < 3; set++) {
            wholeWay(set);
            refusal(set);
            wrongKeysCalls(set);
            wrongWraps(set);
            wrongOpens(set);
        }
        wrongSets();
        Check.end("KemTest");
    }

    private static LatticeSuite withKeys(int set) {
        LatticeSuite x = new LatticeSuite();
        makeKeys(x, set);
        return x;
    }

    private static void makeKeys(LatticeSuite x, int set) {
        Check.put(x, Check.RANDOM, Check.some(set, 64));
        x.kemKeys(set);
    }

    private static void makePacket(LatticeSuite x, int set) {
        makeKeys(x, set);
        Check.put(x, Check.RANDOM, Check.some(90 + set, 32));
        x.kemWrap(set);
    }

    private static void wholeWay(int set) {
        LatticeSuite x = new LatticeSuite();
        Check.put(x, Check.RANDOM, Check.some(set, 64));
        Check.due("kemKeys", x.kemKeys(set), SECRET_SIZES[set]);
        Check.due("PUBLIC", x.length(Check.PUBLIC), PUBLIC_SIZES[set]);
        Check.due("SECRET", x.length(Check.SECRET), SECRET_SIZES[set]);
        Check.put(x, Check.RANDOM, Check.some(50 + set, 32));
        Check.due("kemWrap", x.kemWrap(set), PACKET_SIZES[set]);
        Check.due("PACKET", x.length(Check.PACKET), PACKET_SIZES[set]);
        Check.due("SHARED", x.length(Check.SHARED), 32);
        x.copy(Check.SHARED, Check.SPARE);
        x.resize(Check.SHARED, 0);
        Check.due("kemOpen", x.kemOpen(set), 1);
        Check.holds("both have the same key", x.same(Check.SHARED, Check.SPARE));
        x.alter(Check.RANDOM, 31, 1);
        x.kemWrap(set);
        Check.holds("another m, another key", !x.same(Check.SHARED, Check.SPARE));
    }

    /** A changed packet answers SHAKE256(z | c, 32). */
    private static void refusal(int set) {
        for (int place : new int[] {0, 5, PACKET_SIZES[set] - 1}) {
            LatticeSuite x = new LatticeSuite();
            makePacket(x, set);
            x.alter(Check.PACKET, place, 128);
            Check.due("kemOpen of a changed packet", x.kemOpen(set), 0);
            byte[] got = Check.get(x, Check.SHARED);
            byte[] z = Arrays.copyOfRange(Check.some(set, 64), 32, 64);
            Check.put(x, Check.MESSAGE, Check.join(z, Check.get(x, Check.PACKET)));
            x.digest(12, 32);
            Check.bytes("its key", got, Check.get(x, Check.SHARED));
        }
    }

    private static void wrongKeysCalls(int set) {
        for (int n : new int[] {0, 32, 63, 65, 96}) {
            Check.failsAndChangesNothing("kemKeys with RANDOM of " + n, Check.STATE,
                    x -> x.resize(Check.RANDOM, n), x -> x.kemKeys(set));
        }
    }

    private static void wrongWraps(int set) {
        for (int n : new int[] {0, 31, 33, 64}) {
            Check.failsAndChangesNothing("kemWrap with RANDOM of " + n, Check.STATE, x -> {
                makeKeys(x, set);
                x.resize(Check.RANDOM, n);
                x.resize(Check.PUBLIC, 3);
            }, x -> x.kemWrap(set));
        }
        for (int n : new int[] {0, PUBLIC_SIZES[set] - 1, PUBLIC_SIZES[set] + 1, PUBLIC_SIZES[(set + 1) % 3]}) {
            Check.failsAndChangesNothing("kemWrap with PUBLIC of " + n, Check.UNSUPPORTED, x -> {
                makeKeys(x, set);
                x.resize(Check.RANDOM, 32);
                x.resize(Check.PUBLIC, n);
            }, x -> x.kemWrap(set));
        }
        int last = PUBLIC_SIZES[set] - 32;
        borders(set, 0, 0x01, 0x0d);
        borders(set, 1, 0x10, 0xd0);
        borders(set, last - 3, 0x01, 0x0d);
        borders(set, last - 2, 0x10, 0xd0);
    }

    /** A number of 12 bits at one place: q - 1 = d00 (in sixteens) is taken, q = d01 is not. */
    private static void borders(int set, int at, int one, int high) {
        LatticeSuite x = new LatticeSuite();
        x.resize(Check.RANDOM, 32);
        x.resize(Check.PUBLIC, PUBLIC_SIZES[set]);
        x.alter(Check.PUBLIC, at + 1, high);
        Check.due("kemWrap with q - 1", x.kemWrap(set), PACKET_SIZES[set]);
        x.alter(Check.PUBLIC, at, one);
        Check.fails("kemWrap with q", Check.UNSUPPORTED, () -> x.kemWrap(set));
        x.alter(Check.PUBLIC, at, one);
        x.alter(Check.PUBLIC, at + 1, high);
        for (int i = PUBLIC_SIZES[set] - 32; i < PUBLIC_SIZES[set]; i++) {
            x.alter(Check.PUBLIC, i, 255);
        }
        Check.due("the seed may be anything", x.kemWrap(set), PACKET_SIZES[set]);
    }

    private static void wrongOpens(int set) {
        for (int n : new int[] {0, PACKET_SIZES[set] - 1, PACKET_SIZES[set] + 1}) {
            Check.failsAndChangesNothing("kemOpen with PACKET of " + n, Check.UNSUPPORTED, x -> {
                makePacket(x, set);
                x.resize(Check.PACKET, n);
            }, x -> x.kemOpen(set));
        }
        for (int n : new int[] {0, SECRET_SIZES[set] - 1, SECRET_SIZES[set] + 1, SECRET_SIZES[(set + 1) % 3]}) {
            Check.failsAndChangesNothing("kemOpen with SECRET of " + n, Check.UNSUPPORTED, x -> {
                makePacket(x, set);
                x.resize(Check.SECRET, n);
            }, x -> x.kemOpen(set));
        }
        int size = SECRET_SIZES[set];
        int half = (size - 96) / 2;
        for (int place : new int[] {half, size - 65, size - 64, size - 33}) {
            Check.failsAndChangesNothing("kemOpen with another byte " + place, Check.UNSUPPORTED, x -> {
                makePacket(x, set);
                x.alter(Check.SECRET, place, 1);
            }, x -> x.kemOpen(set));
        }
        LatticeSuite x = new LatticeSuite();
        makePacket(x, set);
        x.alter(Check.SECRET, size - 1, 1);
        Check.due("another z is of no weight for a good packet", x.kemOpen(set), 1);
        x.alter(Check.SECRET, half - 1, 128);
        x.alter(Check.SECRET, 1, 8);
        x.kemOpen(set);
        Check.due("SHARED of another S", x.length(Check.SHARED), 32);
    }

    private static void wrongSets() {
        LatticeSuite x = withKeys(0);
        for (int bad : new int[] {-1, 3, Integer.MIN_VALUE, Integer.MAX_VALUE}) {
            Check.fails("kemKeys(" + bad + ")", Check.ARGUMENT, () -> x.kemKeys(bad));
            Check.fails("kemWrap(" + bad + ")", Check.ARGUMENT, () -> x.kemWrap(bad));
            Check.fails("kemOpen(" + bad + ")", Check.ARGUMENT, () -> x.kemOpen(bad));
        }
    }
}
