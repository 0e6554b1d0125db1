import java.util.Arrays;

/**
 * Promises 14 to 16: the keys of the signatures over modules, what is signed, and what is refused, sentence by
 * sentence. The edges of SIGN and VERIFY stand in DsaSignTest and DsaVerifyTest, ordinary bytes in runs/dsa.txt.
 */
public final class DsaTest {
    private static final int FULL = Check.FULL;
    private static final int[] WRONG_SETS = {-1, 3, Integer.MIN_VALUE, Integer.MAX_VALUE};
    private static final int[] WRONG_HOWS = {-2, 13, Integer.MIN_VALUE, Integer.MAX_VALUE};
    private static final int[] WRONG_RANDOMS = {1, 31, 33, 64, FULL};
    private static final int[] WRONG_CONTEXTS = {256, 257, FULL};

    private final int set;
    private final PlainDsa plain;

    private DsaTest(int set) {
        this.set = set;
        plain = new PlainDsa(set);
    }

    public static void main(String[] args) {
        for (int set = 0; set < 3; set++) {
            DsaTest it = new DsaTest(set);
            it.keysOfRandom();
            it.lowPartsAtTheirEnds();
            it.smallNumbers();
            it.keysOfOtherSizes();
            it.signatures();
            it.contexts();
            it.contextsOfNoWeight();
            it.messages();
            it.withoutRandom();
            it.signsWithOtherContexts();
            it.signsWithOtherRandom();
            it.signsWithOtherSecrets();
            it.verifiesWithOtherContexts();
            it.verifiesWithOtherPublics();
            it.everyHow();
            it.wrongHows();
        }
        wrongSets();
        Check.end("DsaTest");
    }

    private void makeKeys(LatticeSuite x) {
        Check.put(x, Check.RANDOM, Check.some(set, 32));
        x.dsaKeys(set);
        Check.put(x, Check.MESSAGE, Check.some(7, 70));
        Check.put(x, Check.CONTEXT, Check.some(8, 10));
    }

    private LatticeSuite withKeys() {
        LatticeSuite x = new LatticeSuite();
        makeKeys(x);
        return x;
    }

    private byte[] secret() {
        return plain.keys(Check.some(set, 32))[1];
    }

    /** Keys and a signature, and bytes everywhere. */
    private void makePacket(LatticeSuite x) {
        Check.fill(x);
        x.end(Check.SPARE, 33);
        makeKeys(x);
        x.dsaSign(set, 0);
        x.feed(1, 2, 3, 4, 5);
    }

    private void refused(String what, Class<?> want, Check.Making change, Check.Making call) {
        Check.failsAndChangesNothing("set " + set + ", " + what, want, x -> {
            makePacket(x);
            change.make(x);
        }, call);
    }

    private void keysOfRandom() {
        Check.says("Promise 14", "DSA KEYS of RANDOM: PUBLIC is P, SECRET D. Answers the length of D.");
        for (int i = 0; i < 4; i++) {
            byte[] random = i == 0 ? new byte[32] : Check.some(i, 32);
            LatticeSuite x = new LatticeSuite();
            Check.put(x, Check.RANDOM, random);
            Check.due("dsaKeys", x.dsaKeys(set), plain.secretSize());
            byte[][] want = plain.keys(random);
            Check.slotIs("PUBLIC", x, Check.PUBLIC, want[0]);
            Check.slotIs("SECRET", x, Check.SECRET, want[1]);
        }
    }

    private void lowPartsAtTheirEnds() {
        Check.says("Terms", "T0 in -4095 .. 4096");
        for (int end : new int[] {-4095, 4096}) {
            byte[] random = Check.some(1, 32);
            byte[][] want = plain.keys(random);
            while (!hasLow(want[1], end)) {
                random[31]++;
                want = plain.keys(random);
            }
            LatticeSuite x = new LatticeSuite();
            Check.put(x, Check.RANDOM, random);
            x.dsaKeys(set);
            Check.slotIs("PUBLIC with " + end, x, Check.PUBLIC, want[0]);
            Check.slotIs("SECRET with " + end, x, Check.SECRET, want[1]);
        }
    }

    private boolean hasLow(byte[] secret, int low) {
        int at = plain.secretSize() - 416 * plain.k;
        for (int i = 0; i < plain.k; i++) {
            for (int v : PlainDsa.unpack(secret, at + 416 * i, 4096, 13)) {
                if (v == low) {
                    return true;
                }
            }
        }
        return false;
    }

    /** Seeds at which the last number of S 0 comes of the lower and of the higher four bits of a byte. */
    private void smallNumbers() {
        Check.says("Terms", "e 2: below 15: 2 - v % 5; e 4: below 9: 4 - v; others give none");
        for (int half = 0; half < 2; half++) {
            byte[] random = Check.some(2, 32);
            while (lastHalf(random) != half) {
                random[31]++;
            }
            LatticeSuite x = new LatticeSuite();
            Check.put(x, Check.RANDOM, random);
            x.dsaKeys(set);
            Check.slotIs("SECRET", x, Check.SECRET, plain.keys(random)[1]);
        }
    }

    private int lastHalf(byte[] random) {
        byte[] seeds = Plain.shake256(Check.join(random, Plain.of(plain.k, plain.l)), 128);
        return (plain.smallHalves(Check.join(Plain.part(seeds, 32, 64), Plain.le(0, 2))) + 1) % 2;
    }

    private void keysOfOtherSizes() {
        Check.says("Promise 14", "RANDOM has not 32 BYTES: IllegalStateException.");
        for (int n : new int[] {0, 1, 31, 33, 64, FULL}) {
            refused("dsaKeys with RANDOM of " + n, Check.STATE, x -> x.resize(Check.RANDOM, n), x -> x.dsaKeys(set));
        }
    }

    private void signatures() {
        Check.says("Promise 15", "SIGN(SECRET, SIGNED x, RANDOM): PACKET is the signature."
                + " Answers how often it was tried.");
        for (int how = -1; how <= 12; how++) {
            signs(how, Check.some(8, 10), Check.some(how, 20 + 10 * how), Check.some(50 + how, 32));
        }
    }

    /** That dsaSign and dsaVerify do as they should with these. */
    private void signs(int how, byte[] context, byte[] message, byte[] random) {
        LatticeSuite x = withKeys();
        Check.put(x, Check.MESSAGE, message);
        Check.put(x, Check.CONTEXT, context);
        Check.put(x, Check.RANDOM, random);
        signs(x, how, context, message, random);
    }

    private void signs(LatticeSuite x, int how, byte[] context, byte[] message, byte[] random) {
        byte[] n = random.length == 0 ? new byte[32] : random;
        byte[][] want = plain.sign(secret(), Plain.signed(how, context, message), n);
        String what = "set " + set + ", how " + how + ", " + context.length + " and " + message.length + " bytes";
        Check.due(what, x.dsaSign(set, how), (want[1][0] & 255) * 256 + (want[1][1] & 255));
        Check.holds(what + ", dsaVerify", x.dsaVerify(set, how));
        Check.slotIs(what + ", SHARED", x, Check.SHARED, Plain.part(want[0], 0, plain.c));
        Check.slotIs(what + ", PACKET", x, Check.PACKET, want[0]);
    }

    private void contexts() {
        Check.says("Terms", "SIGNED x: how 0: 0 | length of CONTEXT | CONTEXT | MESSAGE; how 1 .. 12:"
                + " 1 | length of CONTEXT | CONTEXT | 6, 9, 96, 134, 72, 1, 101, 3, 4, 2, how | h(MESSAGE)");
        for (int n : new int[] {0, 1, 127, 128, 254, 255}) {
            signs(0, Check.some(n, n), Check.some(1, 30), new byte[0]);
            signs(1 + n % 12, Check.some(n, n), Check.some(1, 30), new byte[0]);
        }
    }

    private void contextsOfNoWeight() {
        Check.says("Promise 15", "how -1: any number is fine");
        for (int n : new int[] {0, 1, 255, 256, 257, FULL}) {
            LatticeSuite x = withKeys();
            x.resize(Check.CONTEXT, n);
            signs(x, -1, new byte[0], Check.some(7, 70), Check.some(set, 32));
        }
    }

    private void messages() {
        Check.says("Terms", "how -1: MESSAGE alone.");
        signs(-1, Check.some(8, 10), new byte[0], new byte[0]);
        signs(0, new byte[0], new byte[0], new byte[0]);
        signs(7, new byte[0], new byte[0], new byte[0]);
        for (int how : new int[] {-1, 0, 3, 12}) {
            LatticeSuite x = withKeys();
            byte[] many = Check.putMany(x, Check.MESSAGE, how, FULL);
            x.resize(Check.CONTEXT, 255);
            byte[] context = Arrays.copyOf(Check.some(8, 10), 255);
            signs(x, how, context, many, Check.some(set, 32));
        }
    }

    private void withoutRandom() {
        Check.says("Promise 15", "none: n is zeros");
        signs(0, Check.some(8, 10), Check.some(7, 70), new byte[0]);
        signs(0, Check.some(8, 10), Check.some(7, 70), new byte[32]);
        // What RANDOM held before it was emptied is of no weight.
        LatticeSuite x = withKeys();
        x.resize(Check.RANDOM, 0);
        signs(x, 0, Check.some(8, 10), Check.some(7, 70), new byte[0]);
    }

    private void signsWithOtherContexts() {
        Check.says("Promise 15", "CONTEXT has more than 255 BYTES");
        for (int n : WRONG_CONTEXTS) {
            for (int how = 0; how <= 12; how += n == 256 ? 1 : 6) {
                int it = how;
                refused("dsaSign with CONTEXT of " + n, Check.STATE, x -> x.resize(Check.CONTEXT, n),
                        x -> x.dsaSign(set, it));
            }
            refused("and SECRET of another length", Check.STATE, x -> {
                x.resize(Check.CONTEXT, n);
                x.resize(Check.SECRET, plain.secretSize() - 1);
            }, x -> x.dsaSign(set, 0));
        }
    }

    private void signsWithOtherRandom() {
        Check.says("Promise 15", "or RANDOM neither 32 nor none (none: n is zeros): IllegalStateException");
        for (int n : WRONG_RANDOMS) {
            for (int how = -1; how <= 12; how += 13) {
                int it = how;
                refused("dsaSign with RANDOM of " + n, Check.STATE, x -> x.resize(Check.RANDOM, n),
                        x -> x.dsaSign(set, it));
                refused("and SECRET of another length", Check.STATE, x -> {
                    x.resize(Check.RANDOM, n);
                    x.resize(Check.SECRET, 0);
                }, x -> x.dsaSign(set, it));
            }
        }
    }

    private void signsWithOtherSecrets() {
        Check.says("Promise 15", "SECRET not as many as a D: UnsupportedOperationException");
        int size = plain.secretSize();
        for (int n : new int[] {0, 128, size - 1, size + 1, plain.publicSize(), FULL}) {
            refused("dsaSign with SECRET of " + n, Check.UNSUPPORTED, x -> x.resize(Check.SECRET, n),
                    x -> x.dsaSign(set, 3));
            refused("without RANDOM", Check.UNSUPPORTED, x -> {
                x.resize(Check.SECRET, n);
                x.resize(Check.RANDOM, 0);
            }, x -> x.dsaSign(set, -1));
        }
    }

    private void verifiesWithOtherContexts() {
        Check.says("Promise 16", "CONTEXT as for dsaSign: IllegalStateException");
        for (int n : WRONG_CONTEXTS) {
            for (int how = 0; how <= 12; how += n == 256 ? 1 : 6) {
                int it = how;
                refused("dsaVerify with CONTEXT of " + n, Check.STATE, x -> x.resize(Check.CONTEXT, n),
                        x -> x.dsaVerify(set, it));
            }
            refused("and PUBLIC of another length", Check.STATE, x -> {
                x.resize(Check.CONTEXT, n);
                x.resize(Check.PUBLIC, plain.publicSize() + 1);
            }, x -> x.dsaVerify(set, 0));
            refused("and PACKET of none", Check.STATE, x -> {
                x.resize(Check.CONTEXT, n);
                x.resize(Check.PACKET, 0);
            }, x -> x.dsaVerify(set, 0));
            LatticeSuite x = new LatticeSuite();
            makePacket(x);
            x.dsaSign(set, -1);
            x.resize(Check.CONTEXT, n);
            Check.holds("how -1 takes it", x.dsaVerify(set, -1));
        }
    }

    private void verifiesWithOtherPublics() {
        Check.says("Promise 16", "PUBLIC has not as many BYTES as a P: UnsupportedOperationException");
        int size = plain.publicSize();
        for (int n : new int[] {0, 32, size - 1, size + 1, plain.secretSize(), FULL}) {
            refused("dsaVerify with PUBLIC of " + n, Check.UNSUPPORTED, x -> x.resize(Check.PUBLIC, n),
                    x -> x.dsaVerify(set, 0));
            refused("and PACKET of none", Check.UNSUPPORTED, x -> {
                x.resize(Check.PUBLIC, n);
                x.resize(Check.PACKET, 0);
            }, x -> x.dsaVerify(set, -1));
        }
        LatticeSuite x = new LatticeSuite();
        makePacket(x);
        x.resize(Check.RANDOM, 5);
        x.resize(Check.SECRET, 0);
        Check.holds("dsaVerify does not look at RANDOM or SECRET", x.dsaVerify(set, 0));
    }

    private void everyHow() {
        Check.says("Promise 16", "set 0 .. 2, how -1 .. 12.");
        LatticeSuite x = withKeys();
        for (int how = -1; how <= 12; how++) {
            Check.holds("dsaSign", x.dsaSign(set, how) >= 1);
            for (int other = -1; other <= 12; other++) {
                Check.due("dsaVerify " + other + " of " + how, x.dsaVerify(set, other), other == how);
            }
        }
    }

    private void wrongHows() {
        Check.says("Promise 15", "set 0 .. 2, how -1 .. 12.");
        for (int bad : WRONG_HOWS) {
            refused("dsaSign(.., " + bad + ")", Check.ARGUMENT, x -> { }, x -> x.dsaSign(set, bad));
            Check.failsAndChangesNothing("dsaSign, with nothing as it should be", Check.ARGUMENT, Check::fill,
                    x -> x.dsaSign(set, bad));
        }
        Check.says("Promise 16", "set 0 .. 2, how -1 .. 12.");
        for (int bad : WRONG_HOWS) {
            refused("dsaVerify(.., " + bad + ")", Check.ARGUMENT, x -> { }, x -> x.dsaVerify(set, bad));
            Check.failsAndChangesNothing("dsaVerify, with nothing as it should be", Check.ARGUMENT, Check::fill,
                    x -> x.dsaVerify(set, bad));
        }
    }

    private static void wrongSets() {
        Check.says("Promise 14", "set 0 .. 2.");
        wrongSets("dsaKeys", (x, set) -> x.dsaKeys(set));
        Check.says("Promise 15", "set 0 .. 2, how -1 .. 12.");
        wrongSets("dsaSign", (x, set) -> x.dsaSign(set, 0));
        wrongSets("dsaSign, both numbers", (x, set) -> x.dsaSign(set, 13));
        Check.says("Promise 16", "set 0 .. 2, how -1 .. 12.");
        wrongSets("dsaVerify", (x, set) -> x.dsaVerify(set, 0));
        wrongSets("dsaVerify, both numbers", (x, set) -> x.dsaVerify(set, -2));
    }

    private interface OfSet {
        void call(LatticeSuite x, int set);
    }

    /** With slots that are right for set 2, and with slots that are right for none. */
    private static void wrongSets(String name, OfSet it) {
        for (int bad : WRONG_SETS) {
            new DsaTest(2).refused(name + " of set " + bad, Check.ARGUMENT, x -> { }, x -> it.call(x, bad));
            Check.failsAndChangesNothing(name + " of set " + bad, Check.ARGUMENT, x -> {
                Check.fill(x);
                x.resize(Check.CONTEXT, 256);
            }, x -> it.call(x, bad));
        }
    }
}
