import java.util.Arrays;

/**
 * Promise 10, against the hash functions of the Java library and, for SHAKE, which it does not have, against
 * known answers and the SPONGE of Plain.
 */
public final class DigestTest {
    private static final int FULL = Check.FULL;
    private static final int[] SIZES = {0, 32, 48, 64, 28, 28, 32, 28, 32, 48, 64};

    public static void main(String[] args) {
        kindsByName();
        wholeBlocks();
        spongesAtTheirRates();
        shakeOfSizes();
        knownShakes();
        keysOfMacs();
        masksOfSizes();
        kindsOutOfRange();
        sizesOutOfRange();
        sizesThatNobodyUses();
        ofMessage();
        Check.end("DigestTest");
    }

    private static byte[] due(int kind, byte[] key, byte[] text, int n) {
        if (kind == 11) {
            return Plain.shake128(text, n);
        }
        if (kind == 12) {
            return Plain.shake256(text, n);
        }
        if (kind == 13 || kind == 14) {
            return Plain.mac(kind == 13 ? "SHA-256" : "SHA-512", key, text);
        }
        return kind > 14 ? Plain.mask(kind == 15 ? "SHA-256" : "SHA-512", text, n) : Plain.hash(kind, text);
    }

    private static void digests(int kind, byte[] key, byte[] text, int n) {
        LatticeSuite x = new LatticeSuite();
        Check.put(x, Check.RANDOM, key);
        Check.put(x, Check.MESSAGE, text);
        x.resize(Check.SHARED, 7);
        byte[] want = due(kind, key, text, n);
        String what = "digest(" + kind + ", " + n + ") of " + text.length + " by " + key.length;
        Check.due(what, x.digest(kind, n), want.length);
        Check.slotIs(what, x, Check.SHARED, want);
    }

    private static void digests(int kind, int size) {
        digests(kind, Check.some(kind, 5), Check.some(size, size), 99);
    }

    private static void kindsByName() {
        Check.says("Promise 10", "kind 1 .. 12: the h of how");
        for (int kind = 1; kind <= 12; kind++) {
            digests(kind, 100);
            digests(kind, 0);
            LatticeSuite x = new LatticeSuite();
            byte[] text = Check.putMany(x, Check.MESSAGE, kind, FULL);
            x.digest(kind, 64);
            Check.slotIs("digest(" + kind + ") of a full MESSAGE", x, Check.SHARED, due(kind, new byte[0], text, 64));
        }
    }

    private static void wholeBlocks() {
        Check.says("Terms", "x | 128 | zeros | be(8 times the length of x, an eighth of a block), to whole blocks,"
                + " as few as can be.");
        for (int kind : new int[] {1, 4}) {
            for (int size : new int[] {54, 55, 56, 57, 63, 64, 65, 119, 120, 127, 128, 8191, 8192}) {
                digests(kind, size);
            }
        }
        for (int kind : new int[] {2, 3, 5, 6}) {
            for (int size : new int[] {110, 111, 112, 113, 127, 128, 129, 239, 240, 255, 256, 8191, 8192}) {
                digests(kind, size);
            }
        }
    }

    private static void spongesAtTheirRates() {
        Check.says("Terms", "x | s, then zeros up to a multiple of R, the last byte of all ^ 128");
        for (int kind = 7; kind <= 12; kind++) {
            int rate = kind == 11 ? 168 : kind == 12 ? 136 : 200 - 2 * SIZES[kind];
            for (int blocks = 1; blocks <= 3; blocks++) {
                for (int by = -2; by <= 1; by++) {
                    digests(kind, blocks * rate + by);
                }
            }
            for (int size = 0; size < 9; size++) {
                digests(kind, size);
            }
        }
    }

    private static void shakeOfSizes() {
        Check.says("Promise 10", "SHAKE (11, 12) of n BYTES");
        for (int kind = 11; kind <= 12; kind++) {
            int rate = kind == 11 ? 168 : 136;
            for (int n : new int[] {0, 1, 7, 8, 9, rate - 1, rate, rate + 1, 2 * rate - 1, 2 * rate, 2 * rate + 1,
                FULL - 1, FULL}) {
                digests(kind, new byte[0], Check.some(n, 40), n);
            }
        }
    }

    private static void knownShakes() {
        Check.says("Terms", "SHAKE128(x, n): SPONGE(168, 31, x, n); SHAKE256(x, n): SPONGE(136, 31, x, n).");
        shakeOf("", 11, 32, "7f9c2ba4e88f827d616045507605853ed73b8093f6efbc88eb1a6eacfa66ef26");
        shakeOf("", 12, 64, "46b9dd2b0ba88d13233b3feb743eeb243fcd52ea62b81b82b50c27646ed5762f"
                + "d75dc4ddd8c0f200cb05019d67b592f6fc821c49479ab48640292eacb3b7c4be");
        shakeOf("abc", 11, 32, "5881092dd818bf5cf8a3ddb793fbcba74097d5c526a6d35f97b83351940f2cc8");
        shakeOf("abc", 12, 32, "483366601360a8771c6863080cc4114d8db44530f8f1e1ee4f94ea37e78b5739");
    }

    private static void shakeOf(String text, int kind, int n, String want) {
        LatticeSuite x = new LatticeSuite();
        Check.put(x, Check.MESSAGE, text.getBytes());
        Check.due("digest(" + kind + ", " + n + ")", x.digest(kind, n), n);
        Check.due("digest(" + kind + ") of '" + text + "'", Check.hex(Check.get(x, Check.SHARED)), want);
    }

    private static void keysOfMacs() {
        Check.says("Promise 10", "13, 14 HMAC-SHA-256, HMAC-SHA-512 with RANDOM as k");
        for (int kind = 13; kind <= 14; kind++) {
            digests(kind, Check.some(1, 20), Check.some(2, 50), 0);
            digests(kind, Check.some(1, 20), new byte[0], FULL);
            digests(kind, Check.some(1, 20), Check.some(2, 500), 32);
        }
        Check.says("Terms", "k longer than B becomes h(k); zeros up to B");
        for (int kind = 13; kind <= 14; kind++) {
            int block = kind == 13 ? 64 : 128;
            for (int n : new int[] {0, 1, block - 1, block, block + 1, 2 * block, 2 * block + 1}) {
                digests(kind, Check.some(n, n), Check.some(3, 60), 0);
            }
            LatticeSuite x = new LatticeSuite();
            byte[] key = Check.putMany(x, Check.RANDOM, kind, FULL);
            Check.put(x, Check.MESSAGE, Check.some(3, 60));
            x.digest(kind, 0);
            Check.slotIs("a full RANDOM", x, Check.SHARED, due(kind, key, Check.some(3, 60), 0));
            Check.slotIs("it stays", x, Check.RANDOM, key);
        }
    }

    private static void masksOfSizes() {
        Check.says("Promise 10", "15, 16 MGF1-SHA-256, MGF1-SHA-512 of n BYTES");
        for (int kind = 15; kind <= 16; kind++) {
            int size = kind == 15 ? 32 : 64;
            // From the 257th hash on the number behind the text has a second byte.
            for (int n : new int[] {0, 1, size - 1, size, size + 1, 2 * size, 256 * size, 256 * size + 1, FULL - 1,
                FULL}) {
                digests(kind, new byte[0], Check.some(n, 33), n);
            }
            for (int text : new int[] {0, 2 * size - 5, 2 * size - 4, 2 * size - 1, 2 * size, 4 * size - 4}) {
                digests(kind, new byte[0], Check.some(4, text), 3 * size);
            }
        }
    }

    private static void kindsOutOfRange() {
        Check.says("Promise 10", "kind 1 .. 12");
        for (int bad : new int[] {0, -1, 17, 18, Integer.MIN_VALUE, Integer.MAX_VALUE}) {
            Check.failsAndChangesNothing("digest(" + bad + ", 1)", Check.ARGUMENT, Check::fill,
                    x -> x.digest(bad, 1));
            Check.failsAndChangesNothing("digest(" + bad + ", -1)", Check.ARGUMENT, Check::fill,
                    x -> x.digest(bad, -1));
        }
    }

    private static void sizesOutOfRange() {
        Check.says("Promise 10", "n 0 .. 65536 (11, 12, 15, 16 alone use it, but for every kind another n is out of"
                + " range)");
        for (int kind = 1; kind <= 16; kind++) {
            int it = kind;
            for (int bad : new int[] {-1, FULL + 1, Integer.MIN_VALUE, Integer.MAX_VALUE}) {
                Check.failsAndChangesNothing("digest(" + kind + ", " + bad + ")", Check.ARGUMENT, Check::fill,
                        x -> x.digest(it, bad));
            }
        }
    }

    private static void sizesThatNobodyUses() {
        Check.says("Promise 10", "11, 12, 15, 16 alone use it");
        for (int kind : new int[] {1, 2, 3, 4, 5, 6, 7, 8, 9, 10, 13, 14}) {
            for (int n : new int[] {0, 1, 20, FULL}) {
                digests(kind, Check.some(1, 9), Check.some(2, 10), n);
            }
        }
    }

    private static void ofMessage() {
        Check.says("Promise 10", "Of MESSAGE; it is SHARED then. Answers its length.");
        for (int kind = 1; kind <= 16; kind++) {
            LatticeSuite x = new LatticeSuite();
            Check.fill(x);
            byte[] want = due(kind, Check.some(20, 41), Check.some(23, 47), 70);
            Check.due("digest", x.digest(kind, 70), want.length);
            Check.slotIs("SHARED", x, Check.SHARED, want);
            for (int slot : new int[] {0, 1, 2, 3, 4, 5, 7}) {
                Check.slotIs("another slot", x, slot, Check.some(20 + slot, 41 + 2 * slot));
            }
            Check.due("the TAPE", x.feed(0, 0, 0, 0, 0), 60);
        }
        LatticeSuite x = new LatticeSuite();
        byte[] many = Check.putMany(x, Check.SPARE, 1, FULL);
        Check.slotIs("a full SHARED", x, Check.SHARED, many);
        x.copy(Check.SPARE, Check.SHARED);
        Check.due("digest(11, 0)", x.digest(11, 0), 0);
        Check.due("an empty SHARED", x.length(Check.SHARED), 0);
        x.resize(Check.MESSAGE, 0);
        x.digest(8, 0);
        byte[] small = Plain.hash(8, new byte[0]);
        x.resize(Check.SHARED, 100);
        Check.slotIs("zeros behind it", x, Check.SHARED, Arrays.copyOf(small, 100));
    }
}
