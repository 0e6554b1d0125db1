import java.util.Arrays;

/** Promises 17 to 20: the signatures from hash trees. Their bytes are due to src/test/runs/slh.txt. */
public final class SlhTest {
    private static final int[] SIZES = {16, 16, 24, 24, 32, 32};
    private static final int[] LAYERS = {7, 22, 7, 22, 8, 17};
    private static final int[] HEIGHTS = {9, 3, 9, 3, 8, 4};
    private static final int[] PACKET_SIZES = {7856, 17088, 16224, 35664, 29792, 49856};
    /** The sets whose signatures are quick to make. */
    private static final int[] QUICK = {1, 3, 5, 7, 9, 11};

    public static void main(String[] args) {
        for (int set : QUICK) {
            wholeWay(set);
            contexts(set);
        }
        for (int set = 0; set < 12; set++) {
            nodes(set);
            wrongKeysCalls(set);
            wrongSigns(set);
            wrongVerifies(set);
            wrongNodes(set);
        }
        wrongNumbers();
        Check.end("SlhTest");
    }

    private static int n(int set) {
        return SIZES[set % 6];
    }

    private static LatticeSuite withKeys(int set) {
        LatticeSuite x = new LatticeSuite();
        Check.put(x, Check.RANDOM, Check.some(set, 3 * n(set)));
        x.slhKeys(set);
        Check.put(x, Check.MESSAGE, Check.some(7, 70));
        Check.put(x, Check.CONTEXT, Check.some(8, 10));
        x.resize(Check.RANDOM, n(set));
        return x;
    }

    private static void wholeWay(int set) {
        LatticeSuite x = new LatticeSuite();
        byte[] seeds = Check.some(set, 3 * n(set));
        Check.put(x, Check.RANDOM, seeds);
        Check.due("slhKeys", x.slhKeys(set), 4 * n(set));
        byte[] secret = Check.get(x, Check.SECRET);
        Check.bytes("SECRET begins with RANDOM", Arrays.copyOf(secret, seeds.length), seeds);
        Check.bytes("PUBLIC is its second half", Check.get(x, Check.PUBLIC),
                Arrays.copyOfRange(secret, 2 * n(set), 4 * n(set)));
        Check.put(x, Check.MESSAGE, Check.some(1, 100));
        Check.put(x, Check.CONTEXT, Check.some(2, 20));
        x.resize(Check.RANDOM, 0);
        Check.due("slhSign", x.slhSign(set, 0), PACKET_SIZES[set % 6]);
        Check.due("PACKET", x.length(Check.PACKET), PACKET_SIZES[set % 6]);
        Check.holds("slhVerify", x.slhVerify(set, 0));
        Check.bytes("SHARED is the root", Check.get(x, Check.SHARED),
                Arrays.copyOfRange(secret, 3 * n(set), 4 * n(set)));
        Check.holds("slhVerify by another how", !x.slhVerify(set, 1) && !x.slhVerify(set, -1));
        for (int[] change : new int[][] {
            {Check.MESSAGE, 99}, {Check.CONTEXT, 19}, {Check.PUBLIC, 0}, {Check.PUBLIC, 2 * n(set) - 1},
            {Check.PACKET, 0}, {Check.PACKET, n(set)}, {Check.PACKET, PACKET_SIZES[set % 6] - 1},
        }) {
            x.resize(Check.SHARED, 0);
            x.alter(change[0], change[1], 4);
            Check.holds("slhVerify of a change in " + change[0], !x.slhVerify(set, 0));
            Check.due("SHARED is there all the same", x.length(Check.SHARED), n(set));
            x.alter(change[0], change[1], 4);
        }
        Check.holds("slhVerify of all changed back", x.slhVerify(set, 0));
        withoutRandom(x, set, seeds);
    }

    /** No RANDOM is Q. */
    private static void withoutRandom(LatticeSuite x, int set, byte[] seeds) {
        x.copy(Check.PACKET, Check.SPARE);
        Check.put(x, Check.RANDOM, Arrays.copyOfRange(seeds, 2 * n(set), 3 * n(set)));
        x.slhSign(set, 0);
        Check.holds("the same signature", x.same(Check.PACKET, Check.SPARE));
        x.alter(Check.RANDOM, n(set) - 1, 1);
        x.slhSign(set, 12);
        Check.holds("another signature", !x.same(Check.PACKET, Check.SPARE));
        Check.holds("good, too", x.slhVerify(set, 12));
    }

    private static void contexts(int set) {
        LatticeSuite x = withKeys(set);
        x.resize(Check.CONTEXT, 256);
        Check.fails("slhSign with a context of 256", Check.STATE, () -> x.slhSign(set, 0));
        Check.fails("slhVerify with a context of 256", Check.STATE, () -> x.slhVerify(set, 12));
        x.slhSign(set, -1);
        x.resize(Check.CONTEXT, 255);
        Check.holds("how -1 does not look at the context", x.slhVerify(set, -1));
        x.slhSign(set, 4);
        Check.holds("a context of 255", x.slhVerify(set, 4));
    }

    private static void nodes(int set) {
        int top = HEIGHTS[set % 6];
        int layers = LAYERS[set % 6];
        LatticeSuite x = withKeys(set);
        Check.due("the root", x.slhNode(set, layers - 1, 0, top, 0), 1);
        Check.bytes("SHARED", Check.get(x, Check.SHARED),
                Arrays.copyOfRange(Check.get(x, Check.SECRET), 3 * n(set), 4 * n(set)));
        x.copy(Check.SHARED, Check.SPARE);
        Check.due("the last leaf", x.slhNode(set, layers - 1, 0, 0, (1 << top) - 1), 0);
        Check.holds("is another", !x.same(Check.SHARED, Check.SPARE));
        Check.due("SHARED", x.length(Check.SHARED), n(set));
        x.copy(Check.SHARED, Check.SPARE);
        for (int[] place : new int[][] {
            {layers - 2, 0, 0, (1 << top) - 1}, {layers - 1, 1, 0, (1 << top) - 1},
            {layers - 1, Integer.MAX_VALUE, 0, (1 << top) - 1}, {layers - 1, 0, 1, (1 << top - 1) - 1},
            {layers - 1, 0, 0, 0},
        }) {
            Check.due("slhNode", x.slhNode(set, place[0], place[1], place[2], place[3]), 0);
            Check.holds("each place has a node of its own", !x.same(Check.SHARED, Check.SPARE));
        }
        x.copy(Check.SHARED, Check.SPARE);
        x.alter(Check.SECRET, n(set), 1);
        x.slhNode(set, layers - 1, 0, 0, 0);
        Check.holds("the third seed is of no weight", x.same(Check.SHARED, Check.SPARE));
        x.alter(Check.SECRET, 0, 1);
        x.slhNode(set, layers - 1, 0, 0, 0);
        Check.holds("the first is", !x.same(Check.SHARED, Check.SPARE));
    }

    private static void wrongKeysCalls(int set) {
        for (int size : new int[] {0, 3 * n(set) - 1, 3 * n(set) + 1, n(set)}) {
            Check.failsAndChangesNothing("slhKeys with RANDOM of " + size, Check.STATE,
                    x -> x.resize(Check.RANDOM, size), x -> x.slhKeys(set));
        }
    }

    private static void wrongSigns(int set) {
        for (int size : new int[] {1, n(set) - 1, n(set) + 1, 3 * n(set)}) {
            Check.failsAndChangesNothing("slhSign with RANDOM of " + size, Check.STATE,
                    x -> x.resize(Check.RANDOM, size), x -> x.slhSign(set, 2));
        }
        for (int size : new int[] {0, 4 * n(set) - 1, 4 * n(set) + 1}) {
            Check.failsAndChangesNothing("slhSign with SECRET of " + size, Check.UNSUPPORTED,
                    x -> x.resize(Check.SECRET, size), x -> x.slhSign(set, 2));
        }
    }

    private static void wrongVerifies(int set) {
        for (int size : new int[] {0, 2 * n(set) - 1, 2 * n(set) + 1}) {
            Check.failsAndChangesNothing("slhVerify with PUBLIC of " + size, Check.UNSUPPORTED, x -> {
                x.resize(Check.PUBLIC, size);
                x.resize(Check.PACKET, PACKET_SIZES[set % 6]);
            }, x -> x.slhVerify(set, 2));
        }
        LatticeSuite x = new LatticeSuite();
        x.resize(Check.PUBLIC, 2 * n(set));
        x.resize(Check.RANDOM, 5);
        x.resize(Check.SHARED, 3);
        for (int size : new int[] {0, PACKET_SIZES[set % 6] - 1, PACKET_SIZES[set % 6] + 1}) {
            x.resize(Check.PACKET, size);
            Check.holds("slhVerify with PACKET of " + size, !x.slhVerify(set, 2));
            Check.due("SHARED stays", x.length(Check.SHARED), 3);
        }
        x.resize(Check.PACKET, PACKET_SIZES[set % 6]);
        Check.holds("slhVerify of zeros", !x.slhVerify(set, 2));
        Check.due("SHARED is there", x.length(Check.SHARED), n(set));
    }

    private static void wrongNodes(int set) {
        int top = HEIGHTS[set % 6];
        int layers = LAYERS[set % 6];
        for (int size : new int[] {0, 4 * n(set) - 1, 4 * n(set) + 1}) {
            Check.failsAndChangesNothing("slhNode with SECRET of " + size, Check.UNSUPPORTED,
                    x -> x.resize(Check.SECRET, size), x -> x.slhNode(set, 0, 0, 0, 0));
        }
        int[][] wrong = {
            {-1, 0, 0, 0}, {layers, 0, 0, 0}, {0, -1, 0, 0}, {0, Integer.MIN_VALUE, 0, 0}, {0, 0, -1, 0},
            {0, 0, top + 1, 0}, {0, 0, 0, -1}, {0, 0, 0, 1 << top}, {0, 0, 1, 1 << top - 1}, {0, 0, top, 1},
            {0, 0, Integer.MAX_VALUE, 0}, {0, 0, 0, Integer.MAX_VALUE}, {0, 0, 32, 0}, {0, 0, -32, 0},
        };
        for (int[] place : wrong) {
            Check.failsAndChangesNothing("slhNode" + Arrays.toString(place), Check.ARGUMENT, x -> { },
                    x -> x.slhNode(set, place[0], place[1], place[2], place[3]));
        }
    }

    private static void wrongNumbers() {
        LatticeSuite x = new LatticeSuite();
        x.resize(Check.CONTEXT, 300);
        for (int bad : new int[] {-1, 12, Integer.MIN_VALUE, Integer.MAX_VALUE}) {
            Check.fails("slhKeys(" + bad + ")", Check.ARGUMENT, () -> x.slhKeys(bad));
            Check.fails("slhSign(" + bad + ", 0)", Check.ARGUMENT, () -> x.slhSign(bad, 0));
            Check.fails("slhVerify(" + bad + ", 0)", Check.ARGUMENT, () -> x.slhVerify(bad, 0));
            Check.fails("slhNode(" + bad + ", ..)", Check.ARGUMENT, () -> x.slhNode(bad, 0, 0, 0, 0));
        }
        for (int bad : new int[] {-2, 13, Integer.MIN_VALUE, Integer.MAX_VALUE}) {
            Check.fails("slhSign(0, " + bad + ")", Check.ARGUMENT, () -> x.slhSign(0, bad));
            Check.fails("slhVerify(0, " + bad + ")", Check.ARGUMENT, () -> x.slhVerify(0, bad));
        }
    }
}
