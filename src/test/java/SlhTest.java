import java.util.Arrays;

/**
 * Promises 17 to 20: the signatures from hash trees, sentence by sentence. Signatures of the sets that are slow
 * to make (0, 2, 4, 6, 8, 10) stand in runs/slh.txt.
 */
public final class SlhTest {
    private static final int FULL = Check.FULL;
    private static final int[] WRONG_SETS = {-1, 12, Integer.MIN_VALUE, Integer.MAX_VALUE};
    private static final int[] WRONG_HOWS = {-2, 13, Integer.MIN_VALUE, Integer.MAX_VALUE};
    private static final int[] WRONG_CONTEXTS = {256, 257, FULL};

    private final int set;
    private final PlainSlh plain;
    private final int n;

    private SlhTest(int set) {
        this.set = set;
        plain = new PlainSlh(set);
        n = plain.n;
    }

    public static void main(String[] args) {
        for (int set = 0; set < 12; set++) {
            SlhTest it = new SlhTest(set);
            it.keysOfRandom();
            it.keysOfOtherSizes();
            if (set % 2 == 1) {
                it.signatures();
                it.changedSignatures();
                it.withoutRandom();
            }
            it.signsWithOtherContexts();
            it.signsWithOtherRandom();
            it.signsWithOtherSecrets();
            it.verifiesWithOtherContexts();
            it.verifiesWithOtherPublics();
            it.packetsOfOtherSizes();
            it.anyPackets();
            it.messages();
            it.placesThatAreChosen();
            it.nodes();
            it.nodesAndTheRoot();
            it.placesOutOfRange();
            it.nodesOfOtherSecrets();
            it.wrongHows();
        }
        wrongSets();
        Check.end("SlhTest");
    }

    private byte[] seeds() {
        return Check.some(set, 3 * n);
    }

    /** Slots of good lengths for all calls, RANDOM for slhSign, and bytes everywhere; it is no pair of keys. */
    private void makeSlots(LatticeSuite x) {
        Check.fill(x);
        x.end(Check.SPARE, 33);
        Check.putMany(x, Check.PACKET, 5, plain.packetSize());
        Check.put(x, Check.SECRET, Check.some(61, 4 * n));
        Check.put(x, Check.PUBLIC, Check.some(62, 2 * n));
        Check.put(x, Check.RANDOM, Check.some(63, n));
        Check.put(x, Check.SHARED, Check.some(64, 19));
        Check.put(x, Check.CONTEXT, Check.some(65, 10));
        x.feed(1, 2, 3, 4, 5);
    }

    private void refused(String what, Class<?> want, Check.Making change, Check.Making call) {
        Check.failsAndChangesNothing("set " + set + ", " + what, want, x -> {
            makeSlots(x);
            change.make(x);
        }, call);
    }

    private void keysOfRandom() {
        Check.says("Promise 17", "SLH KEYS of RANDOM: PUBLIC is P, SECRET D. Answers the length of D.");
        LatticeSuite x = new LatticeSuite();
        Check.put(x, Check.RANDOM, seeds());
        Check.due("slhKeys", x.slhKeys(set), 4 * n);
        byte[][] want = plain.keys(seeds());
        Check.slotIs("PUBLIC", x, Check.PUBLIC, want[0]);
        Check.slotIs("SECRET", x, Check.SECRET, want[1]);
        Check.says("Promise 20", "Answers 1 if it is the root in SECRET, else 0.");
        Check.due("the node at the top", x.slhNode(set, plain.d - 1, 0, plain.p, 0), 1);
        Check.slotIs("SHARED", x, Check.SHARED, Plain.part(want[0], n, n));
    }

    private void keysOfOtherSizes() {
        Check.says("Promise 17", "RANDOM has not 3 n BYTES: IllegalStateException.");
        for (int size : new int[] {0, 1, n, 2 * n, 3 * n - 1, 3 * n + 1, 4 * n, FULL}) {
            refused("slhKeys with RANDOM of " + size, Check.STATE, x -> x.resize(Check.RANDOM, size),
                    x -> x.slhKeys(set));
        }
    }

    private void signatures() {
        Check.says("Promise 18", "SIGN(SECRET, SIGNED x, RANDOM): PACKET is the signature. Answers its length.");
        byte[] secret = Check.join(seeds(), Check.some(3, n));
        for (int how : new int[] {-1, set}) {
            byte[] context = Check.some(how, 20 + how);
            byte[] message = Check.some(1, 100 + how);
            LatticeSuite x = new LatticeSuite();
            Check.put(x, Check.SECRET, secret);
            Check.put(x, Check.CONTEXT, context);
            Check.put(x, Check.MESSAGE, message);
            Check.put(x, Check.RANDOM, Check.some(4, n));
            Check.due("slhSign", x.slhSign(set, how), plain.packetSize());
            byte[] want = plain.sign(secret, Plain.signed(how, context, message), Check.some(4, n));
            Check.slotIs("set " + set + ", how " + how + ", PACKET", x, Check.PACKET, want);
        }
    }

    private LatticeSuite withSignature(int how) {
        LatticeSuite x = new LatticeSuite();
        Check.put(x, Check.RANDOM, seeds());
        x.slhKeys(set);
        Check.put(x, Check.MESSAGE, Check.some(7, 70));
        Check.put(x, Check.CONTEXT, Check.some(8, 10));
        x.resize(Check.RANDOM, n);
        x.slhSign(set, how);
        return x;
    }

    private void changedSignatures() {
        Check.says("Promise 19", "VERIFY(PUBLIC, SIGNED x, PACKET).");
        LatticeSuite x = withSignature(0);
        Check.holds("slhVerify", x.slhVerify(set, 0));
        x.copy(Check.PUBLIC, Check.SPARE);
        Check.slotIs("SHARED is the root", x, Check.SHARED, Plain.part(Check.get(x, Check.SPARE), n, n));
        for (int other = -1; other <= 12; other++) {
            Check.due("slhVerify by how " + other, x.slhVerify(set, other), other == 0);
        }
        int size = plain.packetSize();
        int trees = n * (1 + plain.k * (1 + plain.a));
        int[][] changes = {
            {Check.MESSAGE, 0}, {Check.MESSAGE, 69}, {Check.CONTEXT, 0}, {Check.CONTEXT, 9}, {Check.PUBLIC, 0},
            {Check.PUBLIC, n - 1}, {Check.PUBLIC, n}, {Check.PUBLIC, 2 * n - 1}, {Check.PACKET, 0},
            {Check.PACKET, n - 1}, {Check.PACKET, n}, {Check.PACKET, trees - 1}, {Check.PACKET, size - 1},
            {Check.PACKET, size - n},
        };
        for (int[] change : changes) {
            x.resize(Check.SHARED, 0);
            x.alter(change[0], change[1], 4);
            Check.holds("a change in " + change[0] + " at " + change[1], !x.slhVerify(set, 0));
            Check.due("SHARED is there all the same", x.length(Check.SHARED), n);
            x.alter(change[0], change[1], 4);
        }
        Check.holds("all changed back", x.slhVerify(set, 0));
        x.resize(Check.MESSAGE, 69);
        Check.holds("a byte less in MESSAGE", !x.slhVerify(set, 0));
        x.resize(Check.MESSAGE, 70);
        x.resize(Check.CONTEXT, 11);
        Check.holds("a byte more in CONTEXT", !x.slhVerify(set, 0));
    }

    private void withoutRandom() {
        Check.says("Promise 18", "none: r is Q");
        LatticeSuite x = withSignature(3);
        x.resize(Check.RANDOM, 0);
        Check.due("slhSign", x.slhSign(set, 3), plain.packetSize());
        x.copy(Check.PACKET, Check.SPARE);
        Check.put(x, Check.RANDOM, Plain.part(seeds(), 2 * n, n));
        x.slhSign(set, 3);
        Check.holds("the same signature with Q", x.same(Check.PACKET, Check.SPARE));
        x.alter(Check.RANDOM, n - 1, 1);
        x.slhSign(set, 3);
        Check.holds("another one with another r", !x.same(Check.PACKET, Check.SPARE));
        Check.holds("good, too", x.slhVerify(set, 3));
        x.resize(Check.CONTEXT, FULL);
        x.resize(Check.RANDOM, 0);
        x.slhSign(set, -1);
        x.resize(Check.CONTEXT, 0);
        Check.holds("how -1 takes a full CONTEXT", x.slhVerify(set, -1));
    }

    private void signsWithOtherContexts() {
        Check.says("Promise 18", "CONTEXT as for dsaSign");
        for (int size : WRONG_CONTEXTS) {
            for (int how = 0; how <= 12; how += size == 256 ? 1 : 6) {
                int it = how;
                refused("slhSign with CONTEXT of " + size, Check.STATE, x -> x.resize(Check.CONTEXT, size),
                        x -> x.slhSign(set, it));
            }
            refused("and SECRET of another length", Check.STATE, x -> {
                x.resize(Check.CONTEXT, size);
                x.resize(Check.SECRET, 4 * n - 1);
            }, x -> x.slhSign(set, 0));
        }
    }

    private void signsWithOtherRandom() {
        Check.says("Promise 18", "or RANDOM neither n BYTES nor none (none: r is Q): IllegalStateException");
        for (int size : new int[] {1, n - 1, n + 1, 2 * n, 3 * n, FULL}) {
            for (int how = -1; how <= 12; how += 13) {
                int it = how;
                refused("slhSign with RANDOM of " + size, Check.STATE, x -> x.resize(Check.RANDOM, size),
                        x -> x.slhSign(set, it));
                refused("and SECRET of another length", Check.STATE, x -> {
                    x.resize(Check.RANDOM, size);
                    x.resize(Check.SECRET, 0);
                }, x -> x.slhSign(set, it));
            }
        }
    }

    private void signsWithOtherSecrets() {
        Check.says("Promise 18", "SECRET has not 4 n BYTES: UnsupportedOperationException");
        for (int size : new int[] {0, 2 * n, 3 * n, 4 * n - 1, 4 * n + 1, FULL}) {
            refused("slhSign with SECRET of " + size, Check.UNSUPPORTED, x -> x.resize(Check.SECRET, size),
                    x -> x.slhSign(set, 2));
            refused("without RANDOM", Check.UNSUPPORTED, x -> {
                x.resize(Check.SECRET, size);
                x.resize(Check.RANDOM, 0);
            }, x -> x.slhSign(set, -1));
        }
    }

    private void verifiesWithOtherContexts() {
        Check.says("Promise 19", "CONTEXT as for dsaSign: IllegalStateException");
        for (int size : WRONG_CONTEXTS) {
            for (int how = 0; how <= 12; how += size == 256 ? 1 : 6) {
                int it = how;
                refused("slhVerify with CONTEXT of " + size, Check.STATE, x -> x.resize(Check.CONTEXT, size),
                        x -> x.slhVerify(set, it));
            }
            refused("and PUBLIC of another length", Check.STATE, x -> {
                x.resize(Check.CONTEXT, size);
                x.resize(Check.PUBLIC, 2 * n + 1);
            }, x -> x.slhVerify(set, 0));
            refused("and PACKET of none", Check.STATE, x -> {
                x.resize(Check.CONTEXT, size);
                x.resize(Check.PACKET, 0);
            }, x -> x.slhVerify(set, 0));
        }
    }

    private void verifiesWithOtherPublics() {
        Check.says("Promise 19", "PUBLIC has not 2 n BYTES: UnsupportedOperationException");
        for (int size : new int[] {0, n, 2 * n - 1, 2 * n + 1, 4 * n, FULL}) {
            refused("slhVerify with PUBLIC of " + size, Check.UNSUPPORTED, x -> x.resize(Check.PUBLIC, size),
                    x -> x.slhVerify(set, 0));
            refused("and PACKET of none", Check.UNSUPPORTED, x -> {
                x.resize(Check.PUBLIC, size);
                x.resize(Check.PACKET, 0);
            }, x -> x.slhVerify(set, -1));
        }
    }

    private void packetsOfOtherSizes() {
        Check.says("Promise 19", "where PACKET has another length SHARED stays");
        LatticeSuite x = new LatticeSuite();
        makeSlots(x);
        x.resize(Check.RANDOM, 5);
        x.resize(Check.SECRET, 0);
        int other = new PlainSlh((set + 1) % 12).packetSize();
        int size = plain.packetSize();
        for (int wrong : new int[] {0, 1, n, size - n, size - 1, size + 1, size + n, other, FULL}) {
            x.resize(Check.PACKET, wrong);
            Check.due("PACKET of " + wrong, x.slhVerify(set, 2), false);
            Check.slotIs("SHARED", x, Check.SHARED, Check.some(64, 19));
        }
        x.resize(Check.PACKET, size);
        Check.due("of the right one", x.slhVerify(set, 2), false);
        Check.due("SHARED", x.length(Check.SHARED), n);
    }

    private void anyPackets() {
        Check.says("Promise 19", "If it comes so far SHARED is the last x");
        for (int how = -1; how <= 12; how++) {
            LatticeSuite x = new LatticeSuite();
            byte[] packet = Check.putMany(x, Check.PACKET, how, plain.packetSize());
            byte[] key = Check.some(how + 5, 2 * n);
            Check.put(x, Check.PUBLIC, key);
            Check.put(x, Check.MESSAGE, Check.some(how, 30));
            Check.put(x, Check.CONTEXT, Check.some(how, how == -1 ? 0 : 21 * how));
            byte[] signed = Plain.signed(how, Check.get(x, Check.CONTEXT), Check.some(how, 30));
            Check.due("slhVerify of any bytes", x.slhVerify(set, how), false);
            byte[] last = plain.verify(key, signed, packet);
            Check.slotIs("set " + set + ", how " + how + ", SHARED", x, Check.SHARED, last);
        }
    }

    /** An empty MESSAGE and a full one, behind the shortest and the longest CONTEXT. */
    private void messages() {
        Check.says("Terms", "how 0: 0 | length of CONTEXT | CONTEXT | MESSAGE");
        for (int how : new int[] {-1, 0, 3}) {
            for (int size : new int[] {0, 255}) {
                LatticeSuite x = new LatticeSuite();
                byte[] packet = Check.putMany(x, Check.PACKET, 8, plain.packetSize());
                byte[] key = Check.some(5, 2 * n);
                Check.put(x, Check.PUBLIC, key);
                byte[] context = Check.some(9, size);
                Check.put(x, Check.CONTEXT, context);
                byte[] message = new byte[0];
                if (size == 0) {
                    x.resize(Check.MESSAGE, 0);
                } else {
                    message = Check.putMany(x, Check.MESSAGE, 7, FULL);
                }
                x.slhVerify(set, how);
                Check.slotIs("SHARED", x, Check.SHARED, plain.verify(key, Plain.signed(how, context, message), packet));
            }
        }
    }

    /** Random bytes at the head of PACKET by which t and i are at their ends, and are cut to their bits. */
    private void placesThatAreChosen() {
        Check.says("Terms", "t = the next v BYTES, the highest first, modulo 2^(h - p); i = the next y modulo 2^p");
        byte[] key = Check.some(5, 2 * n);
        byte[] message = Check.some(3, 30);
        for (int want = 0; want < 4; want++) {
            LatticeSuite x = new LatticeSuite();
            byte[] packet = Check.putMany(x, Check.PACKET, want, plain.packetSize());
            Check.put(x, Check.PUBLIC, key);
            Check.put(x, Check.MESSAGE, message);
            byte[] before = packet.clone();
            while (!chooses(key, message, packet, want)) {
                packet[0]++;
                packet[1] += (byte) (packet[0] == 0 ? 1 : 0);
            }
            x.alter(Check.PACKET, 0, (packet[0] ^ before[0]) & 255);
            x.alter(Check.PACKET, 1, (packet[1] ^ before[1]) & 255);
            x.slhVerify(set, -1);
            Check.slotIs("set " + set + ", places " + want, x, Check.SHARED, plain.verify(key, message, packet));
        }
    }

    /** Of 0 .. 3: the highest bit of t is 1, the highest bit is 0, i is its greatest, i is 0. */
    private boolean chooses(byte[] key, byte[] message, byte[] packet, int want) {
        plain.take(Plain.part(key, 0, n), new byte[n]);
        byte[][] places = plain.places(Plain.part(packet, 0, n), Plain.part(key, n, n), message);
        long t = PlainSlh.number(places[1]);
        long i = PlainSlh.number(places[2]);
        if (want < 2) {
            return (t >>> plain.h - plain.p - 1) == 1 - want;
        }
        return i == (want == 2 ? (1 << plain.p) - 1 : 0);
    }

    private void nodes() {
        Check.says("Promise 20", "SHARED is NODE(z, i) in that tree of that layer.");
        byte[] secret = Check.some(61, 4 * n);
        plain.take(Plain.part(secret, 2 * n, n), Plain.part(secret, 0, n));
        int leaves = 1 << plain.p;
        int[][] places = {
            {0, 0, 0, 0}, {0, 0, 0, leaves - 1}, {plain.d - 1, 0, 0, 1}, {plain.d - 1, 1, 1, 0},
            {1, Integer.MAX_VALUE, 0, 0}, {plain.d - 1, Integer.MAX_VALUE, 1, leaves / 2 - 1}, {0, 255, 2, 0},
            {0, 256, 2, leaves / 4 - 1}, {3, 65536, 3, leaves / 8 - 1},
        };
        LatticeSuite x = new LatticeSuite();
        Check.put(x, Check.SECRET, secret);
        for (int[] place : places) {
            x.resize(Check.SHARED, 3);
            Check.due("slhNode", x.slhNode(set, place[0], place[1], place[2], place[3]), 0);
            Check.slotIs("set " + set + ", node " + Arrays.toString(place), x, Check.SHARED,
                    plain.node(place[0], place[1], place[2], place[3]));
        }
        if (plain.p < 5) {
            Check.due("the top of a tree", x.slhNode(set, 2, 77, plain.p, 0), 0);
            Check.slotIs("the top of a tree", x, Check.SHARED, plain.node(2, 77, plain.p, 0));
        }
    }

    private void nodesAndTheRoot() {
        Check.says("Promise 20", "Answers 1 if it is the root in SECRET, else 0.");
        byte[] secret = Check.some(61, 4 * n);
        plain.take(Plain.part(secret, 2 * n, n), Plain.part(secret, 0, n));
        System.arraycopy(plain.node(1, 5, 1, 1), 0, secret, 3 * n, n);
        LatticeSuite x = new LatticeSuite();
        Check.put(x, Check.SECRET, secret);
        Check.due("whatever node is there", x.slhNode(set, 1, 5, 1, 1), 1);
        Check.due("another layer", x.slhNode(set, 0, 5, 1, 1), 0);
        Check.due("another tree", x.slhNode(set, 1, 4, 1, 1), 0);
        Check.due("another height", x.slhNode(set, 1, 5, 0, 1), 0);
        Check.due("another index", x.slhNode(set, 1, 5, 1, 0), 0);
        for (int at : new int[] {3 * n, 4 * n - 1, 0, n - 1, 2 * n, 3 * n - 1}) {
            x.alter(Check.SECRET, at, 128);
            Check.due("another byte " + at, x.slhNode(set, 1, 5, 1, 1), 0);
            x.alter(Check.SECRET, at, 128);
        }
        x.alter(Check.SECRET, n, 1);
        x.alter(Check.SECRET, 2 * n - 1, 1);
        Check.due("the third seed is of no weight", x.slhNode(set, 1, 5, 1, 1), 1);
    }

    private void placesOutOfRange() {
        Check.says("Promise 20", "layer 0 .. d - 1, tree 0 or more, z 0 .. p, i 0 .. 2^(p - z) - 1.");
        int top = plain.p;
        int[][] wrong = {
            {-1, 0, 0, 0}, {plain.d, 0, 0, 0}, {Integer.MIN_VALUE, 0, 0, 0}, {Integer.MAX_VALUE, 0, 0, 0},
            {0, -1, 0, 0}, {0, Integer.MIN_VALUE, 0, 0}, {0, 0, -1, 0}, {0, 0, top + 1, 0},
            {0, 0, Integer.MAX_VALUE, 0}, {0, 0, Integer.MIN_VALUE, 0}, {0, 0, 32, 0}, {0, 0, -32, 0},
            {0, 0, top - 32, 0}, {0, 0, top + 32, 0}, {0, 0, 0, -1}, {0, 0, 0, 1 << top}, {0, 0, 1, 1 << top - 1},
            {0, 0, top - 1, 2}, {0, 0, top, 1}, {0, 0, top, -1}, {0, 0, 0, Integer.MAX_VALUE},
            {0, 0, 0, Integer.MIN_VALUE},
        };
        for (int[] place : wrong) {
            refused("slhNode" + Arrays.toString(place), Check.ARGUMENT, x -> { },
                    x -> x.slhNode(set, place[0], place[1], place[2], place[3]));
            refused("and SECRET of none", Check.ARGUMENT, x -> x.resize(Check.SECRET, 0),
                    x -> x.slhNode(set, place[0], place[1], place[2], place[3]));
        }
        LatticeSuite x = new LatticeSuite();
        x.resize(Check.SECRET, 4 * n);
        Check.due("the last of all numbers", x.slhNode(set, plain.d - 1, Integer.MAX_VALUE, 0, (1 << top) - 1), 0);
        Check.due("the last but one at the top", x.slhNode(set, plain.d - 1, 0, top - 1, 1), 0);
    }

    private void nodesOfOtherSecrets() {
        Check.says("Promise 20", "SECRET has not 4 n BYTES: UnsupportedOperationException.");
        for (int size : new int[] {0, 2 * n, 3 * n, 4 * n - 1, 4 * n + 1, FULL}) {
            refused("slhNode with SECRET of " + size, Check.UNSUPPORTED, x -> x.resize(Check.SECRET, size),
                    x -> x.slhNode(set, 0, 0, 0, 0));
        }
        LatticeSuite x = new LatticeSuite();
        x.resize(Check.SECRET, 4 * n);
        x.resize(Check.CONTEXT, 300);
        Check.due("it looks at no other slot", x.slhNode(set, 0, 0, 0, 0), 0);
    }

    private void wrongHows() {
        Check.Making nothingGood = x -> {
            Check.fill(x);
            x.resize(Check.CONTEXT, 256);
        };
        Check.says("Promise 18", "set 0 .. 11, how -1 .. 12.");
        for (int bad : WRONG_HOWS) {
            refused("slhSign(.., " + bad + ")", Check.ARGUMENT, x -> { }, x -> x.slhSign(set, bad));
            Check.failsAndChangesNothing("slhSign, with nothing as it should be", Check.ARGUMENT, nothingGood,
                    x -> x.slhSign(set, bad));
        }
        Check.says("Promise 19", "set 0 .. 11, how -1 .. 12.");
        for (int bad : WRONG_HOWS) {
            refused("slhVerify(.., " + bad + ")", Check.ARGUMENT, x -> { }, x -> x.slhVerify(set, bad));
            Check.failsAndChangesNothing("slhVerify, with nothing as it should be", Check.ARGUMENT, nothingGood,
                    x -> x.slhVerify(set, bad));
        }
    }

    private static void wrongSets() {
        Check.says("Promise 17", "set 0 .. 11.");
        wrongSets("slhKeys", (x, set) -> x.slhKeys(set));
        Check.says("Promise 18", "set 0 .. 11, how -1 .. 12.");
        wrongSets("slhSign", (x, set) -> x.slhSign(set, 0));
        wrongSets("slhSign, both numbers", (x, set) -> x.slhSign(set, 13));
        Check.says("Promise 19", "set 0 .. 11, how -1 .. 12.");
        wrongSets("slhVerify", (x, set) -> x.slhVerify(set, 0));
        wrongSets("slhVerify, both numbers", (x, set) -> x.slhVerify(set, -2));
        Check.says("Promise 20", "set 0 .. 11");
        wrongSets("slhNode", (x, set) -> x.slhNode(set, 0, 0, 0, 0));
        wrongSets("slhNode, all numbers", (x, set) -> x.slhNode(set, -1, -1, -1, -1));
    }

    private interface OfSet {
        void call(LatticeSuite x, int set);
    }

    /** With slots that are right for sets 5 and 11, and with slots that are right for none. */
    private static void wrongSets(String name, OfSet it) {
        for (int bad : WRONG_SETS) {
            for (int like = 5; like < 12; like += 6) {
                SlhTest test = new SlhTest(like);
                Check.Making random = x -> x.resize(Check.RANDOM, test.n * (name.equals("slhKeys") ? 3 : 1));
                test.refused(name + " of set " + bad, Check.ARGUMENT, random, x -> it.call(x, bad));
            }
            Check.failsAndChangesNothing(name + " of set " + bad, Check.ARGUMENT, x -> {
                Check.fill(x);
                x.resize(Check.CONTEXT, 256);
            }, x -> it.call(x, bad));
        }
    }
}
