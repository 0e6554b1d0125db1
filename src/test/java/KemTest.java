import java.util.Arrays;

/** Promises 11 to 13: the key encapsulation, sentence by sentence. Its ordinary bytes stand in runs/kem.txt, too. */
public final class KemTest {
    private static final int FULL = Check.FULL;
    private static final int[] WRONG_SETS = {-1, 3, Integer.MIN_VALUE, Integer.MAX_VALUE};

    private final int set;
    private final PlainKem plain;

    private KemTest(int set) {
        this.set = set;
        plain = new PlainKem(set);
    }

    public static void main(String[] args) {
        for (int set = 0; set < 3; set++) {
            KemTest it = new KemTest(set);
            it.keysOfHalves();
            it.keysOfOtherSizes();
            it.wraps();
            it.wrapsWithOtherRandom();
            it.publicOfOtherSizes();
            it.numbersBelowQ();
            it.samples();
            it.roundings();
            it.opens();
            it.opensWithoutRoom();
            it.otherPackets();
            it.packetsOfOtherSizes();
            it.secretsOfOtherSizes();
            it.secretsWithoutTheirHash();
            it.secretsOfAnyNumbers();
        }
        wrongSets();
        Check.end("KemTest");
    }

    private void makeKeys(LatticeSuite x, int seed) {
        Check.put(x, Check.RANDOM, Check.some(seed, 64));
        x.kemKeys(set);
    }

    /** Keys and a packet, RANDOM of 32, and bytes everywhere else. */
    private void makePacket(LatticeSuite x) {
        Check.fill(x);
        x.end(Check.SPARE, 33);
        makeKeys(x, set);
        Check.put(x, Check.RANDOM, Check.some(90 + set, 32));
        x.kemWrap(set);
        Check.put(x, Check.SHARED, Check.some(1, 19));
        x.feed(1, 2, 3, 4, 5);
    }

    private void refused(String what, Class<?> want, Check.Making change, Check.Making call) {
        Check.failsAndChangesNothing("set " + set + ", " + what, want, x -> {
            makePacket(x);
            change.make(x);
        }, call);
    }

    private void keysOfHalves() {
        Check.says("Promise 11", "KEM KEYS of its halves: PUBLIC is P, SECRET D. Answers the length of D.");
        for (byte[] random : new byte[][] {new byte[64], ones(64), Check.some(set, 64), Check.some(7, 64)}) {
            LatticeSuite x = new LatticeSuite();
            Check.put(x, Check.RANDOM, random);
            Check.due("kemKeys", x.kemKeys(set), plain.secretSize());
            byte[][] want = plain.keys(random);
            Check.slotIs("PUBLIC", x, Check.PUBLIC, want[0]);
            Check.slotIs("SECRET", x, Check.SECRET, want[1]);
        }
    }

    private static byte[] ones(int n) {
        byte[] it = new byte[n];
        Arrays.fill(it, (byte) -1);
        return it;
    }

    private void keysOfOtherSizes() {
        Check.says("Promise 11", "RANDOM has not 64 BYTES: IllegalStateException.");
        for (int n : new int[] {0, 1, 32, 63, 65, 96, 128, FULL}) {
            refused("kemKeys with RANDOM of " + n, Check.STATE, x -> x.resize(Check.RANDOM, n), x -> x.kemKeys(set));
        }
    }

    private void wraps() {
        Check.says("Promise 12", "WRAP(PUBLIC, RANDOM): PACKET is the ciphertext, SHARED the key."
                + " Answers the length of PACKET.");
        for (byte[] m : new byte[][] {new byte[32], ones(32), Check.some(set, 32)}) {
            LatticeSuite x = new LatticeSuite();
            makeKeys(x, 30 + set);
            Check.put(x, Check.RANDOM, m);
            Check.due("kemWrap", x.kemWrap(set), plain.packetSize());
            byte[][] want = plain.wrap(plain.keys(Check.some(30 + set, 64))[0], m);
            Check.slotIs("SHARED", x, Check.SHARED, want[1]);
            Check.slotIs("PACKET", x, Check.PACKET, want[0]);
        }
    }

    private void wrapsWithOtherRandom() {
        Check.says("Promise 12", "RANDOM has not 32 BYTES: IllegalStateException.");
        for (int n : new int[] {0, 1, 31, 33, 64, FULL}) {
            refused("kemWrap with RANDOM of " + n, Check.STATE, x -> x.resize(Check.RANDOM, n), x -> x.kemWrap(set));
            refused("and PUBLIC of none", Check.STATE, x -> {
                x.resize(Check.RANDOM, n);
                x.resize(Check.PUBLIC, 0);
            }, x -> x.kemWrap(set));
            refused("and a number of q", Check.STATE, x -> {
                x.resize(Check.RANDOM, n);
                x.resize(Check.PUBLIC, 0);
                x.resize(Check.PUBLIC, plain.publicSize());
                x.alter(Check.PUBLIC, 0, 0x01);
                x.alter(Check.PUBLIC, 1, 0x0d);
            }, x -> x.kemWrap(set));
        }
    }

    private void publicOfOtherSizes() {
        Check.says("Promise 12", "PUBLIC has not 384 k + 32");
        int size = plain.publicSize();
        for (int n : new int[] {0, 32, size - 384, size - 1, size + 1, size + 384, FULL}) {
            refused("kemWrap with PUBLIC of " + n, Check.UNSUPPORTED, x -> x.resize(Check.PUBLIC, n),
                    x -> x.kemWrap(set));
        }
    }

    private void numbersBelowQ() {
        Check.says("Promise 12", "or a number of 12 bits in it is q or more: UnsupportedOperationException");
        int last = 256 * plain.k - 1;
        for (int place : new int[] {0, 1, 2, 3, 255, 256, last - 1, last}) {
            borders(place);
        }
        LatticeSuite x = new LatticeSuite();
        byte[] all = new byte[plain.publicSize()];
        for (int i = 0; i < 384 * plain.k; i += 3) {
            // Two numbers d00 (in sixteens), which is q - 1.
            all[i + 1] = 0x0d;
            all[i + 2] = (byte) 0xd0;
        }
        Arrays.fill(all, 384 * plain.k, all.length, (byte) -1);
        putPublic(x, all);
        x.resize(Check.RANDOM, 32);
        Check.due("numbers q - 1 alone, and a seed of any bytes", x.kemWrap(set), plain.packetSize());
        Check.slotIs("PACKET", x, Check.PACKET, plain.wrap(all, new byte[32])[0]);
    }

    private static void putPublic(LatticeSuite x, byte[] it) {
        Check.put(x, Check.PUBLIC, it);
    }

    /** One number of 12 bits: q - 1 is taken, q, q + 1 and the greatest are not. */
    private void borders(int place) {
        for (int v : new int[] {PlainKem.Q - 1, PlainKem.Q, PlainKem.Q + 1, 4095}) {
            Check.Making change = x -> {
                x.resize(Check.PUBLIC, 0);
                x.resize(Check.PUBLIC, plain.publicSize());
                for (int bit = 0; bit < 12; bit++) {
                    int at = 12 * place + bit;
                    x.alter(Check.PUBLIC, at / 8, (v >> bit & 1) << at % 8);
                }
            };
            if (v < PlainKem.Q) {
                LatticeSuite x = new LatticeSuite();
                x.resize(Check.RANDOM, 32);
                change.make(x);
                Check.due("kemWrap with q - 1 at " + place, x.kemWrap(set), plain.packetSize());
            } else {
                refused("kemWrap with " + v + " at " + place, Check.UNSUPPORTED, change, x -> x.kemWrap(set));
            }
        }
    }

    /** Seeds at which the numbers q - 1 and q come up, and one is left over behind the last. */
    private void samples() {
        Check.says("Terms", "each that is below q is the next coefficient, until there are 256");
        for (int want : new int[] {1, 2, 4}) {
            byte[] seed = new byte[32];
            while (!meets(seed, want)) {
                seed[0]++;
                seed[1] += (byte) (seed[0] == 0 ? 1 : 0);
            }
            byte[] key = Check.join(Check.some(3, 20), new byte[384 * plain.k - 20], seed);
            // Numbers of twelve bits below q in the twenty bytes at the start.
            for (int i = 1; i < 20; i++) {
                key[i] = (byte) (i % 3 == 1 ? key[i] & 0x77 : i % 3 == 2 ? key[i] & 0x7f : key[i]);
            }
            LatticeSuite x = new LatticeSuite();
            putPublic(x, key);
            Check.put(x, Check.RANDOM, Check.some(want, 32));
            x.kemWrap(set);
            Check.slotIs("PACKET of a seed", x, Check.PACKET, plain.wrap(key, Check.some(want, 32))[0]);
        }
    }

    private boolean meets(byte[] seed, int want) {
        return (PlainKem.sampleMeets(Check.join(seed, Plain.of(0, plain.k - 1))) & want) != 0;
    }

    private void roundings() {
        Check.says("Terms", "the nearest whole number to 2^d x / q (halves up) modulo 2^d");
        Arrays.fill(PlainKem.WRAPS, 0);
        byte[] key = plain.keys(Check.some(5, 64))[0];
        LatticeSuite x = new LatticeSuite();
        makeKeys(x, 5);
        // With 11 bits not even q - 1 comes to 2^11.
        for (int i = 0; i < 30 && (i < 8 || plain.du == 10 && PlainKem.WRAPS[plain.du] == 0); i++) {
            byte[] m = Check.some(i, 32);
            Check.put(x, Check.RANDOM, m);
            x.kemWrap(set);
            Check.slotIs("PACKET", x, Check.PACKET, plain.wrap(key, m)[0]);
        }
        Check.holds("numbers came to 2^du", PlainKem.WRAPS[plain.du] > 0 == (plain.du == 10));
        Check.holds("numbers came to 2^dv", PlainKem.WRAPS[plain.dv] > 0);
    }

    private void opens() {
        Check.says("Promise 13", "OPEN(SECRET, PACKET): SHARED is the key. Answers 1 if ENCRYPT gave PACKET, else 0.");
        for (byte[] m : new byte[][] {new byte[32], ones(32), Check.some(70 + set, 32)}) {
            LatticeSuite x = new LatticeSuite();
            makeKeys(x, set);
            Check.put(x, Check.RANDOM, m);
            x.kemWrap(set);
            x.copy(Check.SHARED, Check.SPARE);
            x.resize(Check.SHARED, 40);
            x.resize(Check.RANDOM, 0);
            x.resize(Check.PUBLIC, 0);
            Check.due("kemOpen", x.kemOpen(set), 1);
            Check.holds("the key", x.same(Check.SHARED, Check.SPARE));
        }
    }

    /** Secrets with which each number on the way is the last before it would be rounded to another bit. */
    private void opensWithoutRoom() {
        Check.says("Terms", "m the bits COMPRESS 1 (V - UNNTT(the sum of S j * NTT(U j)))");
        byte[] key = plain.keys(Check.some(5, 64))[0];
        boolean halves = false;
        for (int i = 0; i < 8 || !halves; i++) {
            byte[] m = Check.some(i, 32);
            byte[][] wrapped = plain.wrap(key, m);
            byte[] secret = plain.tightSecret(key, wrapped[0], m, Check.some(6, 32));
            LatticeSuite x = new LatticeSuite();
            Check.put(x, Check.SECRET, secret);
            Check.put(x, Check.PACKET, wrapped[0]);
            Check.due("kemOpen without room", x.kemOpen(set), 1);
            Check.slotIs("its key", x, Check.SHARED, wrapped[1]);
            for (int v : Plain.unbits(wrapped[0], 0, plain.du)) {
                halves |= v == 1 << plain.du - 1;
            }
        }
    }

    /** A changed packet answers SHAKE256(z | c, 32), whichever bit it is. */
    private void otherPackets() {
        Check.says("Terms", "the key is K if ENCRYPT(P, m, r) is c, P being that in D, else SHAKE256(z | c, 32)");
        byte[][] keys = plain.keys(Check.some(set, 64));
        byte[] packet = plain.wrap(keys[0], Check.some(9, 32))[0];
        LatticeSuite x = new LatticeSuite();
        makeKeys(x, set);
        Check.put(x, Check.RANDOM, Check.some(9, 32));
        x.kemWrap(set);
        int last = packet.length - 1;
        for (int place : new int[] {0, 1, 319, 320, last - 160, last - 128, last - 127, last - 1, last}) {
            for (int bit : new int[] {1, 128}) {
                x.alter(Check.PACKET, place, bit);
                packet[place] ^= (byte) bit;
                Check.due("kemOpen", x.kemOpen(set), 0);
                byte[] want = plain.open(keys[1], packet)[0];
                Check.slotIs("its key", x, Check.SHARED, want);
                x.alter(Check.PACKET, place, bit);
                packet[place] ^= (byte) bit;
            }
        }
        Check.due("kemOpen of all changed back", x.kemOpen(set), 1);
        for (int fill : new int[] {0, 255}) {
            byte[] any = new byte[packet.length];
            Arrays.fill(any, (byte) fill);
            Check.put(x, Check.PACKET, any);
            Check.due("kemOpen of any bytes", x.kemOpen(set), 0);
            Check.slotIs("its key", x, Check.SHARED, Plain.shake256(Check.join(Plain.part(keys[1],
                    keys[1].length - 32, 32), any), 32));
        }
    }

    private void packetsOfOtherSizes() {
        Check.says("Promise 13", "PACKET has not 32 (du k + dv) BYTES");
        int size = plain.packetSize();
        for (int n : new int[] {0, 1, size - 32, size - 1, size + 1, size + 32, FULL}) {
            refused("kemOpen with PACKET of " + n, Check.UNSUPPORTED, x -> x.resize(Check.PACKET, n),
                    x -> x.kemOpen(set));
        }
    }

    private void secretsOfOtherSizes() {
        Check.says("Promise 13", "or SECRET not 768 k + 96");
        int size = plain.secretSize();
        for (int n : new int[] {0, 96, size - 768, size - 1, size + 1, size + 768, FULL}) {
            refused("kemOpen with SECRET of " + n, Check.UNSUPPORTED, x -> x.resize(Check.SECRET, n),
                    x -> x.kemOpen(set));
        }
    }

    private void secretsWithoutTheirHash() {
        Check.says("Promise 13", "or the next to last 32 of these are not SHA3-256 of the P in it:"
                + " UnsupportedOperationException");
        int size = plain.secretSize();
        int half = 384 * plain.k;
        for (int place : new int[] {half, half + 1, size - 97, size - 96, size - 65, size - 64, size - 63, size - 33}) {
            refused("kemOpen with another byte " + place, Check.UNSUPPORTED, x -> x.alter(Check.SECRET, place, 1),
                    x -> x.kemOpen(set));
        }
        for (int place : new int[] {size - 32, size - 1}) {
            LatticeSuite x = new LatticeSuite();
            makePacket(x);
            x.alter(Check.SECRET, place, 1);
            Check.due("another z is of no weight for a good packet", x.kemOpen(set), 1);
            x.alter(Check.PACKET, 0, 1);
            Check.due("it is for another one", x.kemOpen(set), 0);
            byte[] z = Plain.part(Check.some(set, 64), 32, 32);
            z[place - size + 32] ^= 1;
            byte[] packet = plain.wrap(plain.keys(Check.some(set, 64))[0], Check.some(90 + set, 32))[0];
            packet[0] ^= 1;
            Check.slotIs("its key", x, Check.SHARED, Plain.shake256(Check.join(z, packet), 32));
        }
        for (int place : new int[] {0, half - 1}) {
            LatticeSuite x = new LatticeSuite();
            makePacket(x);
            x.alter(Check.SECRET, place, 128);
            x.kemOpen(set);
            Check.due("another S is taken", x.length(Check.SHARED), 32);
        }
    }

    /** PUBLIC in SECRET, which kemWrap would refuse: its numbers of 12 bits count modulo q. */
    private void secretsOfAnyNumbers() {
        Check.says("Terms", "T, by 12 bits each modulo q, and A of P's last 32 BYTES");
        byte[] key = plain.keys(Check.some(5, 64))[0];
        for (int i = 0; i < plain.k; i++) {
            int[] numbers = Plain.unbits(key, 384 * i, 12);
            for (int n = 0; n < 256; n++) {
                numbers[n] += numbers[n] + PlainKem.Q < 4096 ? PlainKem.Q : 0;
            }
            System.arraycopy(Plain.bits(numbers, 12), 0, key, 384 * i, 384);
        }
        byte[][] wrapped = plain.wrap(key, Check.some(8, 32));
        byte[] secret = plain.tightSecret(key, wrapped[0], Check.some(8, 32), Check.some(6, 32));
        LatticeSuite x = new LatticeSuite();
        Check.put(x, Check.SECRET, secret);
        Check.put(x, Check.PACKET, wrapped[0]);
        Check.due("kemOpen", x.kemOpen(set), 1);
        Check.slotIs("its key", x, Check.SHARED, wrapped[1]);
        putPublic(x, key);
        x.resize(Check.RANDOM, 32);
        Check.fails("kemWrap", Check.UNSUPPORTED, () -> x.kemWrap(set));
    }

    private static void wrongSets() {
        Check.says("Promise 11", "set 0 .. 2.");
        wrongSets("kemKeys", (x, set) -> x.kemKeys(set));
        Check.says("Promise 12", "set 0 .. 2.");
        wrongSets("kemWrap", (x, set) -> x.kemWrap(set));
        Check.says("Promise 13", "set 0 .. 2.");
        wrongSets("kemOpen", (x, set) -> x.kemOpen(set));
    }

    private interface OfSet {
        void call(LatticeSuite x, int set);
    }

    /** With slots that are right for set 2, and with slots that are right for none. */
    private static void wrongSets(String name, OfSet it) {
        for (int bad : WRONG_SETS) {
            Check.failsAndChangesNothing(name + "(" + bad + ")", Check.ARGUMENT, Check::fill, x -> it.call(x, bad));
            Check.failsAndChangesNothing(name + "(" + bad + ")", Check.ARGUMENT, x -> {
                new KemTest(2).makePacket(x);
                x.resize(Check.RANDOM, name.equals("kemKeys") ? 64 : 32);
            }, x -> it.call(x, bad));
        }
    }
}
