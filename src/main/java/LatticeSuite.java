import java.util.Arrays;

/**
 * ML-KEM, ML-DSA and SLH-DSA at all their parameter sets, and the hash functions beneath them, over
 * eight slots of bytes.
 *
 * <p>Every row that a call works in is made by a constructor and used again: a call makes no object.
 */
public final class LatticeSuite {
    private static final int LIMIT = 65536;
    private static final int FED = 20;
    private static final int MOST_INT = 0x7fffffff;

    private static final int SLOTS = 8;
    private static final int RANDOM = 0;
    private static final int PUBLIC = 1;
    private static final int SECRET = 2;
    private static final int MESSAGE = 3;
    private static final int CONTEXT = 4;
    private static final int PACKET = 5;
    private static final int SHARED = 6;

    // The hash functions bear the numbers that `how` and the kinds of digest give them.
    private static final int SHA_256 = 1;
    private static final int SHA_384 = 2;
    private static final int SHA_512 = 3;
    private static final int SHA_224 = 4;
    private static final int SHA_512_224 = 5;
    private static final int SHA_512_256 = 6;
    private static final int SHA3_256 = 8;
    private static final int SHA3_512 = 10;
    private static final int SHAKE_128 = 11;
    private static final int SHAKE_256 = 12;
    private static final int MAC_256 = 13;
    private static final int MAC_512 = 14;
    private static final int MASK_256 = 15;
    private static final int MASK_512 = 16;

    /** How many bytes each of the hash functions 1 .. 12 answers where nobody says another number. */
    private static final int[] HASH_SIZES = {0, 32, 48, 64, 28, 28, 32, 28, 32, 48, 64, 32, 64};

    private final Bytes[] slots = new Bytes[SLOTS];
    private final Bytes tape = new Bytes();
    private final Hashes hashes = new Hashes();
    private final Signed signed;
    private final Kem kem;
    private final Dsa dsa;
    private final Slh slh;

    public LatticeSuite() {
        for (int i = 0; i < SLOTS; i++) {
            slots[i] = new Bytes();
        }
        signed = new Signed(hashes, slots[CONTEXT], slots[MESSAGE]);
        kem = new Kem(hashes);
        dsa = new Dsa(hashes);
        slh = new Slh(hashes);
    }

    public int feed(int a, int b, int c, int d, int e) throws IndexOutOfBoundsException {
        if (tape.size + FED > LIMIT) {
            throw new IndexOutOfBoundsException("the tape is full");
        }
        Bits.putInt(a, tape.bytes, tape.size);
        Bits.putInt(b, tape.bytes, tape.size + 4);
        Bits.putInt(c, tape.bytes, tape.size + 8);
        Bits.putInt(d, tape.bytes, tape.size + 12);
        Bits.putInt(e, tape.bytes, tape.size + 16);
        tape.size += FED;
        return tape.size;
    }

    public int end(int slot, int n) throws IllegalArgumentException, IndexOutOfBoundsException {
        checkRange(slot, 0, SLOTS - 1);
        checkRange(n, 0, LIMIT);
        if (tape.size < n) {
            throw new IndexOutOfBoundsException("the tape has fewer bytes");
        }
        slots[slot].become(tape.bytes, n);
        tape.size = 0;
        return n;
    }

    public int copy(int from, int to) throws IllegalArgumentException {
        checkRange(from, 0, SLOTS - 1);
        checkRange(to, 0, SLOTS - 1);
        slots[to].become(slots[from].bytes, slots[from].size);
        return slots[to].size;
    }

    public int resize(int slot, int n) throws IllegalArgumentException {
        checkRange(slot, 0, SLOTS - 1);
        checkRange(n, 0, LIMIT);
        Bytes it = slots[slot];
        int before = it.size;
        if (n > before) {
            Arrays.fill(it.bytes, before, n, (byte) 0);
        }
        it.size = n;
        return before;
    }

    public int alter(int slot, int i, int v) throws IllegalArgumentException, IndexOutOfBoundsException {
        checkRange(slot, 0, SLOTS - 1);
        checkRange(v, 0, 255);
        Bytes it = slots[slot];
        checkPlace(it, i);
        it.bytes[i] ^= (byte) v;
        return it.bytes[i] & 255;
    }

    public int length(int slot) throws IllegalArgumentException {
        checkRange(slot, 0, SLOTS - 1);
        return slots[slot].size;
    }

    public long word(int slot, int i) throws IllegalArgumentException, IndexOutOfBoundsException {
        checkRange(slot, 0, SLOTS - 1);
        Bytes it = slots[slot];
        checkPlace(it, i);
        long answer = 0;
        for (int j = i; j < i + 8; j++) {
            answer = answer << 8 | (j < it.size ? it.bytes[j] & 255 : 0);
        }
        return answer;
    }

    public boolean same(int slot, int other) throws IllegalArgumentException {
        checkRange(slot, 0, SLOTS - 1);
        checkRange(other, 0, SLOTS - 1);
        return slots[slot].size == slots[other].size
                && Bits.alike(slots[slot].bytes, 0, slots[other].bytes, 0, slots[slot].size);
    }

    public int digest(int kind, int n) throws IllegalArgumentException {
        checkRange(kind, SHA_256, MASK_512);
        checkRange(n, 0, LIMIT);
        int base = baseOf(kind);
        boolean sized = kind == SHAKE_128 || kind == SHAKE_256 || kind >= MASK_256;
        boolean keyed = kind == MAC_256 || kind == MAC_512;
        Bytes key = slots[RANDOM];
        Bytes shared = slots[SHARED];
        shared.size = sized ? n : HASH_SIZES[base];
        Hash hash = keyed ? hashes.startMac(base, key.bytes, 0, key.size) : hashes.start(base);
        hash.add(slots[MESSAGE].bytes, 0, slots[MESSAGE].size);
        if (keyed) {
            hashes.finishMac(base, shared.bytes, 0, shared.size);
        } else if (kind >= MASK_256) {
            hashes.finishMask(base, shared.bytes, n);
        } else {
            hash.finish(shared.bytes, 0, shared.size);
        }
        return shared.size;
    }

    public int kemKeys(int set) throws IllegalArgumentException, IllegalStateException, ArithmeticException {
        checkRange(set, 0, 2);
        checkState(slots[RANDOM].size == 64);
        kem.choose(set);
        kem.keys(slots[RANDOM].bytes, slots[PUBLIC], slots[SECRET]);
        return slots[SECRET].size;
    }

    public int kemWrap(int set)
            throws IllegalArgumentException, IllegalStateException, UnsupportedOperationException,
                    ArithmeticException {
        checkRange(set, 0, 2);
        checkState(slots[RANDOM].size == 32);
        kem.choose(set);
        checkSupported(kem.takesPublic(slots[PUBLIC]));
        kem.wrap(slots[PUBLIC].bytes, slots[RANDOM].bytes, slots[PACKET], slots[SHARED]);
        return slots[PACKET].size;
    }

    public int kemOpen(int set)
            throws IllegalArgumentException, UnsupportedOperationException, ArithmeticException {
        checkRange(set, 0, 2);
        kem.choose(set);
        checkSupported(kem.takesPacket(slots[PACKET]) && kem.takesSecret(slots[SECRET]));
        return kem.open(slots[SECRET].bytes, slots[PACKET], slots[SHARED]) ? 1 : 0;
    }

    public int dsaKeys(int set) throws IllegalArgumentException, IllegalStateException, ArithmeticException {
        checkRange(set, 0, 2);
        checkState(slots[RANDOM].size == 32);
        dsa.choose(set);
        dsa.keys(slots[RANDOM].bytes, slots[PUBLIC], slots[SECRET]);
        return slots[SECRET].size;
    }

    public int dsaSign(int set, int how)
            throws IllegalArgumentException, IllegalStateException, UnsupportedOperationException,
                    ArithmeticException {
        checkRange(set, 0, 2);
        checkRange(how, -1, 12);
        checkState(signed.canBeMade(how));
        checkState(slots[RANDOM].size == 32 || slots[RANDOM].size == 0);
        dsa.choose(set);
        checkSupported(slots[SECRET].size == dsa.secretSize());
        signed.make(how);
        return dsa.sign(slots[SECRET].bytes, slots[RANDOM], signed, slots[PACKET]);
    }

    public boolean dsaVerify(int set, int how)
            throws IllegalArgumentException, IllegalStateException, UnsupportedOperationException,
                    ArithmeticException {
        checkRange(set, 0, 2);
        checkRange(how, -1, 12);
        checkState(signed.canBeMade(how));
        dsa.choose(set);
        checkSupported(slots[PUBLIC].size == dsa.publicSize());
        if (!dsa.takesPacket(slots[PACKET])) {
            return false;
        }
        signed.make(how);
        return dsa.verify(slots[PUBLIC].bytes, signed, slots[PACKET].bytes, slots[SHARED]);
    }

    public int slhKeys(int set) throws IllegalArgumentException, IllegalStateException {
        checkRange(set, 0, 11);
        slh.choose(set);
        checkState(slots[RANDOM].size == 3 * slh.n);
        slh.keys(slots[RANDOM].bytes, slots[PUBLIC], slots[SECRET]);
        return slots[SECRET].size;
    }

    public int slhSign(int set, int how)
            throws IllegalArgumentException, IllegalStateException, UnsupportedOperationException {
        checkRange(set, 0, 11);
        checkRange(how, -1, 12);
        slh.choose(set);
        checkState(signed.canBeMade(how));
        checkState(slots[RANDOM].size == slh.n || slots[RANDOM].size == 0);
        checkSupported(slots[SECRET].size == 4 * slh.n);
        signed.make(how);
        Bytes packet = slots[PACKET];
        slh.startSign(slots[SECRET].bytes, slots[RANDOM], signed, packet.bytes);
        slh.signForest(packet.bytes);
        slh.signTrees(packet.bytes);
        packet.size = slh.packetSize();
        return packet.size;
    }

    public boolean slhVerify(int set, int how)
            throws IllegalArgumentException, IllegalStateException, UnsupportedOperationException {
        checkRange(set, 0, 11);
        checkRange(how, -1, 12);
        slh.choose(set);
        checkState(signed.canBeMade(how));
        checkSupported(slots[PUBLIC].size == 2 * slh.n);
        if (slots[PACKET].size != slh.packetSize()) {
            return false;
        }
        signed.make(how);
        return slh.verify(slots[PUBLIC].bytes, signed, slots[PACKET].bytes, slots[SHARED]);
    }

    public int slhNode(int set, int layer, int tree, int z, int i)
            throws IllegalArgumentException, UnsupportedOperationException {
        checkRange(set, 0, 11);
        slh.choose(set);
        checkRange(layer, 0, slh.layers - 1);
        checkRange(tree, 0, MOST_INT);
        checkRange(z, 0, slh.height);
        checkRange(i, 0, (1 << (slh.height - z)) - 1);
        checkSupported(slots[SECRET].size == 4 * slh.n);
        slh.takeSeeds(slots[SECRET].bytes);
        slh.place(layer, tree);
        slh.node(Slh.TREE, 0, z, i, slots[SHARED].bytes, 0);
        slots[SHARED].size = slh.n;
        return Bits.alike(slots[SHARED].bytes, 0, slots[SECRET].bytes, 3 * slh.n, slh.n) ? 1 : 0;
    }

    /** The hash function that a kind of digest is, or is built on. */
    private static int baseOf(int kind) {
        if (kind == MAC_256 || kind == MASK_256) {
            return SHA_256;
        }
        return kind == MAC_512 || kind == MASK_512 ? SHA_512 : kind;
    }

    private static void checkRange(int v, int least, int most) {
        if (v < least || v > most) {
            throw new IllegalArgumentException("a number is out of range");
        }
    }

    private static void checkPlace(Bytes it, int i) {
        if (i < 0 || i >= it.size) {
            throw new IndexOutOfBoundsException("the slot has no such byte");
        }
    }

    private static void checkState(boolean holds) {
        if (!holds) {
            throw new IllegalStateException("RANDOM or CONTEXT does not have the length for this call");
        }
    }

    private static void checkSupported(boolean holds) {
        if (!holds) {
            throw new UnsupportedOperationException("a key or ciphertext is not one of this set");
        }
    }

    /** What a slot or the tape holds. */
    private static final class Bytes {
        final byte[] bytes = new byte[LIMIT];
        int size;

        void become(byte[] from, int n) {
            System.arraycopy(from, 0, bytes, 0, n);
            size = n;
        }
    }

    /** Numbers in and out of bytes. */
    private static final class Bits {
        static void putInt(int v, byte[] to, int at) {
            to[at] = (byte) (v >> 24);
            to[at + 1] = (byte) (v >> 16);
            to[at + 2] = (byte) (v >> 8);
            to[at + 3] = (byte) v;
        }

        static boolean alike(byte[] x, int xAt, byte[] y, int yAt, int n) {
            for (int i = 0; i < n; i++) {
                if (x[xAt + i] != y[yAt + i]) {
                    return false;
                }
            }
            return true;
        }

        /** BITS(f, d); each coefficient is below 2^d, and d at most 20. */
        static void pack(int[] f, int d, byte[] to, int at) {
            int held = 0;
            int bits = 0;
            int next = at;
            for (int i = 0; i < f.length; i++) {
                held |= f[i] << bits;
                for (bits += d; bits >= 8; bits -= 8) {
                    to[next++] = (byte) held;
                    held >>>= 8;
                }
            }
        }

        /** Turns BITS(f, d) round. */
        static void unpack(byte[] from, int at, int d, int[] f) {
            int held = 0;
            int bits = 0;
            int next = at;
            int mask = (1 << d) - 1;
            for (int i = 0; i < f.length; i++) {
                for (; bits < d; bits += 8) {
                    held |= (from[next++] & 255) << bits;
                }
                f[i] = held & mask;
                held >>>= d;
                bits -= d;
            }
        }

        /** The lowest `bits` bits of i turned round. */
        static int turned(int i, int bits) {
            return Integer.reverse(i) >>> (32 - bits);
        }
    }

    /** A hash function that takes bytes block by block. */
    private abstract static class Hash {
        final byte[] block;
        int rate;
        int filled;
        private long total;
        private final byte[] markedBlock;
        private int markedFilled;
        private long markedTotal;

        Hash(int room) {
            block = new byte[room];
            markedBlock = new byte[room];
            rate = room;
        }

        abstract void start(int kind);

        /** Mixes a full block into the state. */
        abstract void takeBlock();

        /** Answers n bytes; after it the hash is to be started or recalled. */
        abstract void finish(byte[] to, int at, int n);

        abstract void keepState();

        abstract void bringState();

        void empty() {
            filled = 0;
            total = 0;
        }

        void add(byte[] from, int at, int n) {
            total += n;
            int done = 0;
            while (done < n) {
                int part = Math.min(rate - filled, n - done);
                System.arraycopy(from, at + done, block, filled, part);
                done += part;
                filled += part;
                if (filled == rate) {
                    takeBlock();
                    filled = 0;
                }
            }
        }

        /** Keeps what has come so far, so that many inputs with the same beginning share its cost. */
        void mark() {
            System.arraycopy(block, 0, markedBlock, 0, filled);
            markedFilled = filled;
            markedTotal = total;
            keepState();
        }

        void recall() {
            System.arraycopy(markedBlock, 0, block, 0, markedFilled);
            filled = markedFilled;
            total = markedTotal;
            bringState();
        }

        /** Pads as the SHA-2 family does; whether the block has room for the total, too. */
        boolean closeBlock(int totalSize) {
            block[filled] = (byte) 128;
            Arrays.fill(block, filled + 1, rate, (byte) 0);
            return filled + 1 + totalSize <= rate;
        }

        void putTotal() {
            long bits = 8 * total;
            Bits.putInt((int) (bits >>> 32), block, rate - 8);
            Bits.putInt((int) bits, block, rate - 4);
        }
    }

    /** SHA-3 and SHAKE. */
    private static final class Sponge extends Hash {
        private static final long[] ROUNDS = {
            0x0000000000000001L, 0x0000000000008082L, 0x800000000000808aL, 0x8000000080008000L,
            0x000000000000808bL, 0x0000000080000001L, 0x8000000080008081L, 0x8000000000008009L,
            0x000000000000008aL, 0x0000000000000088L, 0x0000000080008009L, 0x000000008000000aL,
            0x000000008000808bL, 0x800000000000008bL, 0x8000000000008089L, 0x8000000000008003L,
            0x8000000000008002L, 0x8000000000000080L, 0x000000000000800aL, 0x800000008000000aL,
            0x8000000080008081L, 0x8000000000008080L, 0x0000000080000001L, 0x8000000080008008L,
        };

        private final long[] lanes = new long[25];
        private final long[] turned = new long[25];
        private final long[] marked = new long[25];
        private int suffix;

        Sponge() {
            super(168);
        }

        void start(int kind) {
            boolean shake = kind >= SHAKE_128;
            rate = kind == SHAKE_128 ? 168 : kind == SHAKE_256 ? 136 : 200 - 2 * HASH_SIZES[kind];
            suffix = shake ? 31 : 6;
            Arrays.fill(lanes, 0L);
            empty();
        }

        void keepState() {
            System.arraycopy(lanes, 0, marked, 0, 25);
        }

        void bringState() {
            System.arraycopy(marked, 0, lanes, 0, 25);
        }

        void takeBlock() {
            for (int i = 0; 8 * i < rate; i++) {
                long lane = 0;
                for (int j = 8 * i + 7; j >= 8 * i; j--) {
                    lane = lane << 8 | block[j] & 255;
                }
                lanes[i] ^= lane;
            }
            permute();
        }

        /** Answers the first n bytes; goOn gives what follows a whole block. */
        void finish(byte[] to, int at, int n) {
            block[filled] = (byte) suffix;
            Arrays.fill(block, filled + 1, rate, (byte) 0);
            block[rate - 1] ^= (byte) 128;
            takeBlock();
            give(to, at, Math.min(n, rate));
            for (int done = rate; done < n; done += rate) {
                permute();
                give(to, at + done, Math.min(n - done, rate));
            }
        }

        void goOn(byte[] to) {
            permute();
            give(to, 0, rate);
        }

        private void give(byte[] to, int at, int n) {
            for (int i = 0; i < n; i++) {
                to[at + i] = (byte) (lanes[i >> 3] >>> ((i & 7) << 3));
            }
        }

        // Written out lane by lane: all else here waits for this method.
        private void permute() {
            long[] a = lanes;
            long[] b = turned;
            for (int round = 0; round < 24; round++) {
                long c0 = a[0] ^ a[5] ^ a[10] ^ a[15] ^ a[20];
                long c1 = a[1] ^ a[6] ^ a[11] ^ a[16] ^ a[21];
                long c2 = a[2] ^ a[7] ^ a[12] ^ a[17] ^ a[22];
                long c3 = a[3] ^ a[8] ^ a[13] ^ a[18] ^ a[23];
                long c4 = a[4] ^ a[9] ^ a[14] ^ a[19] ^ a[24];
                long d0 = c4 ^ Long.rotateLeft(c1, 1);
                long d1 = c0 ^ Long.rotateLeft(c2, 1);
                long d2 = c1 ^ Long.rotateLeft(c3, 1);
                long d3 = c2 ^ Long.rotateLeft(c4, 1);
                long d4 = c3 ^ Long.rotateLeft(c0, 1);
                b[0] = a[0] ^ d0;
                b[1] = Long.rotateLeft(a[6] ^ d1, 44);
                b[2] = Long.rotateLeft(a[12] ^ d2, 43);
                b[3] = Long.rotateLeft(a[18] ^ d3, 21);
                b[4] = Long.rotateLeft(a[24] ^ d4, 14);
                b[5] = Long.rotateLeft(a[3] ^ d3, 28);
                b[6] = Long.rotateLeft(a[9] ^ d4, 20);
                b[7] = Long.rotateLeft(a[10] ^ d0, 3);
                b[8] = Long.rotateLeft(a[16] ^ d1, 45);
                b[9] = Long.rotateLeft(a[22] ^ d2, 61);
                b[10] = Long.rotateLeft(a[1] ^ d1, 1);
                b[11] = Long.rotateLeft(a[7] ^ d2, 6);
                b[12] = Long.rotateLeft(a[13] ^ d3, 25);
                b[13] = Long.rotateLeft(a[19] ^ d4, 8);
                b[14] = Long.rotateLeft(a[20] ^ d0, 18);
                b[15] = Long.rotateLeft(a[4] ^ d4, 27);
                b[16] = Long.rotateLeft(a[5] ^ d0, 36);
                b[17] = Long.rotateLeft(a[11] ^ d1, 10);
                b[18] = Long.rotateLeft(a[17] ^ d2, 15);
                b[19] = Long.rotateLeft(a[23] ^ d3, 56);
                b[20] = Long.rotateLeft(a[2] ^ d2, 62);
                b[21] = Long.rotateLeft(a[8] ^ d3, 55);
                b[22] = Long.rotateLeft(a[14] ^ d4, 39);
                b[23] = Long.rotateLeft(a[15] ^ d0, 41);
                b[24] = Long.rotateLeft(a[21] ^ d1, 2);
                for (int row = 0; row < 25; row += 5) {
                    long b0 = b[row];
                    long b1 = b[row + 1];
                    long b2 = b[row + 2];
                    long b3 = b[row + 3];
                    long b4 = b[row + 4];
                    a[row] = b0 ^ (~b1 & b2);
                    a[row + 1] = b1 ^ (~b2 & b3);
                    a[row + 2] = b2 ^ (~b3 & b4);
                    a[row + 3] = b3 ^ (~b4 & b0);
                    a[row + 4] = b4 ^ (~b0 & b1);
                }
                a[0] ^= ROUNDS[round];
            }
        }
    }

    /** SHA-256 and SHA-224: their constants are halves of those of the hashes of 64 bits. */
    private static final class Sha256 extends Hash {
        private final int[] state = new int[8];
        private final int[] marked = new int[8];
        private final int[] words = new int[64];

        Sha256() {
            super(64);
        }

        void start(int kind) {
            for (int i = 0; i < 8; i++) {
                long root = Sha512.SQUARE_ROOTS[kind == SHA_224 ? 8 + i : i];
                state[i] = (int) (kind == SHA_224 ? root : root >>> 32);
            }
            empty();
        }

        void keepState() {
            System.arraycopy(state, 0, marked, 0, 8);
        }

        void bringState() {
            System.arraycopy(marked, 0, state, 0, 8);
        }

        void finish(byte[] to, int at, int n) {
            if (!closeBlock(8)) {
                takeBlock();
                Arrays.fill(block, (byte) 0);
            }
            putTotal();
            takeBlock();
            for (int i = 0; i < n; i++) {
                to[at + i] = (byte) (state[i >> 2] >>> (24 - ((i & 3) << 3)));
            }
        }

        void takeBlock() {
            int[] w = words;
            for (int t = 0, i = 0; t < 16; t++, i += 4) {
                w[t] = block[i] << 24 | (block[i + 1] & 255) << 16
                        | (block[i + 2] & 255) << 8 | block[i + 3] & 255;
            }
            for (int t = 16; t < 64; t++) {
                int x = w[t - 2];
                int y = w[t - 15];
                w[t] = (Integer.rotateRight(x, 17) ^ Integer.rotateRight(x, 19) ^ x >>> 10) + w[t - 7]
                        + (Integer.rotateRight(y, 7) ^ Integer.rotateRight(y, 18) ^ y >>> 3) + w[t - 16];
            }
            int a = state[0];
            int b = state[1];
            int c = state[2];
            int d = state[3];
            int e = state[4];
            int f = state[5];
            int g = state[6];
            int h = state[7];
            for (int t = 0; t < 64; t++) {
                int first = h + (e & f ^ ~e & g) + (int) (Sha512.CUBE_ROOTS[t] >>> 32) + w[t]
                        + (Integer.rotateRight(e, 6) ^ Integer.rotateRight(e, 11) ^ Integer.rotateRight(e, 25));
                int second = (a & b ^ a & c ^ b & c)
                        + (Integer.rotateRight(a, 2) ^ Integer.rotateRight(a, 13) ^ Integer.rotateRight(a, 22));
                h = g;
                g = f;
                f = e;
                e = d + first;
                d = c;
                c = b;
                b = a;
                a = first + second;
            }
            state[0] += a;
            state[1] += b;
            state[2] += c;
            state[3] += d;
            state[4] += e;
            state[5] += f;
            state[6] += g;
            state[7] += h;
        }
    }

    /** SHA-512, SHA-384, SHA-512/224 and SHA-512/256. */
    private static final class Sha512 extends Hash {
        /** The first 64 bits behind the point of the square roots of the first 16 primes. */
        static final long[] SQUARE_ROOTS = {
            0x6a09e667f3bcc908L, 0xbb67ae8584caa73bL, 0x3c6ef372fe94f82bL, 0xa54ff53a5f1d36f1L,
            0x510e527fade682d1L, 0x9b05688c2b3e6c1fL, 0x1f83d9abfb41bd6bL, 0x5be0cd19137e2179L,
            0xcbbb9d5dc1059ed8L, 0x629a292a367cd507L, 0x9159015a3070dd17L, 0x152fecd8f70e5939L,
            0x67332667ffc00b31L, 0x8eb44a8768581511L, 0xdb0c2e0d64f98fa7L, 0x47b5481dbefa4fa4L,
        };

        /** The same of the cube roots of the first 80 primes. */
        static final long[] CUBE_ROOTS = {
            0x428a2f98d728ae22L, 0x7137449123ef65cdL, 0xb5c0fbcfec4d3b2fL, 0xe9b5dba58189dbbcL,
            0x3956c25bf348b538L, 0x59f111f1b605d019L, 0x923f82a4af194f9bL, 0xab1c5ed5da6d8118L,
            0xd807aa98a3030242L, 0x12835b0145706fbeL, 0x243185be4ee4b28cL, 0x550c7dc3d5ffb4e2L,
            0x72be5d74f27b896fL, 0x80deb1fe3b1696b1L, 0x9bdc06a725c71235L, 0xc19bf174cf692694L,
            0xe49b69c19ef14ad2L, 0xefbe4786384f25e3L, 0x0fc19dc68b8cd5b5L, 0x240ca1cc77ac9c65L,
            0x2de92c6f592b0275L, 0x4a7484aa6ea6e483L, 0x5cb0a9dcbd41fbd4L, 0x76f988da831153b5L,
            0x983e5152ee66dfabL, 0xa831c66d2db43210L, 0xb00327c898fb213fL, 0xbf597fc7beef0ee4L,
            0xc6e00bf33da88fc2L, 0xd5a79147930aa725L, 0x06ca6351e003826fL, 0x142929670a0e6e70L,
            0x27b70a8546d22ffcL, 0x2e1b21385c26c926L, 0x4d2c6dfc5ac42aedL, 0x53380d139d95b3dfL,
            0x650a73548baf63deL, 0x766a0abb3c77b2a8L, 0x81c2c92e47edaee6L, 0x92722c851482353bL,
            0xa2bfe8a14cf10364L, 0xa81a664bbc423001L, 0xc24b8b70d0f89791L, 0xc76c51a30654be30L,
            0xd192e819d6ef5218L, 0xd69906245565a910L, 0xf40e35855771202aL, 0x106aa07032bbd1b8L,
            0x19a4c116b8d2d0c8L, 0x1e376c085141ab53L, 0x2748774cdf8eeb99L, 0x34b0bcb5e19b48a8L,
            0x391c0cb3c5c95a63L, 0x4ed8aa4ae3418acbL, 0x5b9cca4f7763e373L, 0x682e6ff3d6b2b8a3L,
            0x748f82ee5defb2fcL, 0x78a5636f43172f60L, 0x84c87814a1f0ab72L, 0x8cc702081a6439ecL,
            0x90befffa23631e28L, 0xa4506cebde82bde9L, 0xbef9a3f7b2c67915L, 0xc67178f2e372532bL,
            0xca273eceea26619cL, 0xd186b8c721c0c207L, 0xeada7dd6cde0eb1eL, 0xf57d4f7fee6ed178L,
            0x06f067aa72176fbaL, 0x0a637dc5a2c898a6L, 0x113f9804bef90daeL, 0x1b710b35131c471bL,
            0x28db77f523047d84L, 0x32caab7b40c72493L, 0x3c9ebe0a15c9bebcL, 0x431d67c49c100d4cL,
            0x4cc5d4becb3e42b6L, 0x597f299cfc657e2aL, 0x5fcb6fab3ad6faecL, 0x6c44198c4a475817L,
        };

        private static final long[] START_224 = {
            0x8c3d37c819544da2L, 0x73e1996689dcd4d6L, 0x1dfab7ae32ff9c82L, 0x679dd514582f9fcfL,
            0x0f6d2b697bd44da8L, 0x77e36f7304c48942L, 0x3f9d85a86a1d36c8L, 0x1112e6ad91d692a1L,
        };
        private static final long[] START_256 = {
            0x22312194fc2bf72cL, 0x9f555fa3c84c64c2L, 0x2393b86b6f53b151L, 0x963877195940eabdL,
            0x96283ee2a88effe3L, 0xbe5e1e2553863992L, 0x2b0199fc2c85b8aaL, 0x0eb72ddc81c52ca2L,
        };

        private final long[] state = new long[8];
        private final long[] marked = new long[8];
        private final long[] words = new long[80];

        Sha512() {
            super(128);
        }

        void start(int kind) {
            if (kind == SHA_512_224) {
                System.arraycopy(START_224, 0, state, 0, 8);
            } else if (kind == SHA_512_256) {
                System.arraycopy(START_256, 0, state, 0, 8);
            } else {
                System.arraycopy(SQUARE_ROOTS, kind == SHA_384 ? 8 : 0, state, 0, 8);
            }
            empty();
        }

        void keepState() {
            System.arraycopy(state, 0, marked, 0, 8);
        }

        void bringState() {
            System.arraycopy(marked, 0, state, 0, 8);
        }

        void finish(byte[] to, int at, int n) {
            if (!closeBlock(16)) {
                takeBlock();
                Arrays.fill(block, (byte) 0);
            }
            putTotal();
            takeBlock();
            for (int i = 0; i < n; i++) {
                to[at + i] = (byte) (state[i >> 3] >>> (56 - ((i & 7) << 3)));
            }
        }

        void takeBlock() {
            long[] w = words;
            for (int t = 0; t < 16; t++) {
                long v = 0;
                for (int i = 8 * t; i < 8 * t + 8; i++) {
                    v = v << 8 | block[i] & 255;
                }
                w[t] = v;
            }
            for (int t = 16; t < 80; t++) {
                long x = w[t - 2];
                long y = w[t - 15];
                w[t] = (Long.rotateRight(x, 19) ^ Long.rotateRight(x, 61) ^ x >>> 6) + w[t - 7]
                        + (Long.rotateRight(y, 1) ^ Long.rotateRight(y, 8) ^ y >>> 7) + w[t - 16];
            }
            long a = state[0];
            long b = state[1];
            long c = state[2];
            long d = state[3];
            long e = state[4];
            long f = state[5];
            long g = state[6];
            long h = state[7];
            for (int t = 0; t < 80; t++) {
                long first = h + (e & f ^ ~e & g) + CUBE_ROOTS[t] + w[t]
                        + (Long.rotateRight(e, 14) ^ Long.rotateRight(e, 18) ^ Long.rotateRight(e, 41));
                long second = (a & b ^ a & c ^ b & c)
                        + (Long.rotateRight(a, 28) ^ Long.rotateRight(a, 34) ^ Long.rotateRight(a, 39));
                h = g;
                g = f;
                f = e;
                e = d + first;
                d = c;
                c = b;
                b = a;
                a = first + second;
            }
            state[0] += a;
            state[1] += b;
            state[2] += c;
            state[3] += d;
            state[4] += e;
            state[5] += f;
            state[6] += g;
            state[7] += h;
        }
    }

    /** All the hash functions by their numbers, and HMAC and MGF1 over them. */
    private static final class Hashes {
        final Sponge sponge = new Sponge();
        private final Sha256 sha256 = new Sha256();
        private final Sha512 sha512 = new Sha512();
        private final byte[] key = new byte[128];
        private final byte[] inner = new byte[64];
        private final byte[] counter = new byte[4];

        Hash of(int kind) {
            if (kind == SHA_256 || kind == SHA_224) {
                return sha256;
            }
            if (kind <= SHA_512_256) {
                return sha512;
            }
            return sponge;
        }

        Hash start(int kind) {
            Hash hash = of(kind);
            hash.start(kind);
            return hash;
        }

        /** What is added between this and finishMac is the text of the HMAC. */
        Hash startMac(int kind, byte[] from, int at, int n) {
            Hash hash = start(kind);
            Arrays.fill(key, (byte) 0);
            if (n > hash.rate) {
                hash.add(from, at, n);
                hash.finish(key, 0, HASH_SIZES[kind]);
                hash.start(kind);
            } else {
                System.arraycopy(from, at, key, 0, n);
            }
            changeKey(0x36);
            hash.add(key, 0, hash.rate);
            return hash;
        }

        void finishMac(int kind, byte[] to, int at, int n) {
            of(kind).finish(inner, 0, HASH_SIZES[kind]);
            Hash hash = start(kind);
            changeKey(0x36 ^ 0x5c);
            hash.add(key, 0, hash.rate);
            hash.add(inner, 0, HASH_SIZES[kind]);
            hash.finish(to, at, n);
        }

        private void changeKey(int by) {
            for (int i = 0; i < key.length; i++) {
                key[i] ^= (byte) by;
            }
        }

        /** MGF1 of what has been added to the hash of this kind. */
        void finishMask(int kind, byte[] to, int n) {
            Hash hash = of(kind);
            int size = HASH_SIZES[kind];
            hash.mark();
            for (int done = 0, count = 0; done < n; done += size, count++) {
                Bits.putInt(count, counter, 0);
                hash.recall();
                hash.add(counter, 0, 4);
                hash.finish(to, done, Math.min(size, n - done));
            }
        }
    }

    /** SIGNED x: a lead of its own and, where MESSAGE itself is signed and not its hash, MESSAGE. */
    private static final class Signed {
        private static final byte[] HASH_NAME = {6, 9, 96, (byte) 134, 72, 1, 101, 3, 4, 2};

        private final Hashes hashes;
        private final Bytes context;
        private final Bytes message;
        private final byte[] lead = new byte[2 + 255 + 11 + 64];
        private int leadSize;
        private boolean whole;

        Signed(Hashes hashes, Bytes context, Bytes message) {
            this.hashes = hashes;
            this.context = context;
            this.message = message;
        }

        boolean canBeMade(int how) {
            return how < 0 || context.size <= 255;
        }

        void make(int how) {
            whole = how <= 0;
            leadSize = 0;
            if (how >= 0 && canBeMade(how)) {
                lead[0] = (byte) (how == 0 ? 0 : 1);
                lead[1] = (byte) context.size;
                System.arraycopy(context.bytes, 0, lead, 2, context.size);
                leadSize = 2 + context.size;
            }
            if (how > 0) {
                addHash(how);
            }
        }

        private void addHash(int how) {
            System.arraycopy(HASH_NAME, 0, lead, leadSize, HASH_NAME.length);
            leadSize += HASH_NAME.length;
            lead[leadSize++] = (byte) how;
            Hash hash = hashes.start(how);
            hash.add(message.bytes, 0, message.size);
            hash.finish(lead, leadSize, HASH_SIZES[how]);
            leadSize += HASH_SIZES[how];
        }

        void addTo(Hash hash) {
            hash.add(lead, 0, leadSize);
            if (whole) {
                hash.add(message.bytes, 0, message.size);
            }
        }
    }

    /** The key encapsulation. */
    private static final class Kem {
        private static final int Q = 3329;
        private static final int ROOT = 17;
        /** The inverse of 128. */
        private static final int UNSCALE = 3303;
        private static final int MOST_TRIPLES = 280;
        private static final int TRIPLES_A_BLOCK = 56;

        private final Hashes hashes;
        private final int[] zetas = new int[128];
        /** The roots of the pairs: X^2 is gammas[i] in pair i. */
        private final int[] gammas = new int[128];
        private final int[][] matrix = new int[16][256];
        private final int[][] vector = new int[4][256];
        private final int[] sum = new int[256];
        private final int[] other = new int[256];
        private final byte[] row = new byte[192];
        private final byte[] input = new byte[34];
        private final byte[] pair = new byte[64];
        private final byte[] plain = new byte[32];
        private final byte[] cipher = new byte[1568];
        private int k;
        private int eta;
        private int du;
        private int dv;

        Kem(Hashes hashes) {
            this.hashes = hashes;
            int power = 1;
            for (int i = 0; i < 256; i++) {
                if (i < 128) {
                    zetas[Bits.turned(i, 7)] = power;
                }
                if (i % 2 == 1) {
                    gammas[Bits.turned(i / 2, 7)] = power;
                }
                power = power * ROOT % Q;
            }
        }

        void choose(int set) {
            k = set + 2;
            eta = set == 0 ? 3 : 2;
            du = set == 2 ? 11 : 10;
            dv = set == 2 ? 5 : 4;
        }

        private int publicSize() {
            return 384 * k + 32;
        }

        private int packetSize() {
            return 32 * (du * k + dv);
        }

        boolean takesPublic(Bytes it) {
            if (it.size != publicSize()) {
                return false;
            }
            for (int i = 0; i < k; i++) {
                Bits.unpack(it.bytes, 384 * i, 12, other);
                for (int c = 0; c < 256; c++) {
                    if (other[c] >= Q) {
                        return false;
                    }
                }
            }
            return true;
        }

        boolean takesPacket(Bytes it) {
            return it.size == packetSize();
        }

        boolean takesSecret(Bytes it) {
            if (it.size != 768 * k + 96) {
                return false;
            }
            hashPublic(it.bytes, 384 * k, plain, 0);
            return Bits.alike(plain, 0, it.bytes, 768 * k + 32, 32);
        }

        void keys(byte[] random, Bytes publicKey, Bytes secret) {
            System.arraycopy(random, 0, input, 0, 32);
            input[32] = (byte) k;
            hashPair(input, 33, input, 0, 0);
            expand(pair, 0);
            for (int i = 0; i < k; i++) {
                noise(vector[i], i, eta);
                toPairs(vector[i]);
                Bits.pack(vector[i], 12, secret.bytes, 384 * i);
            }
            for (int i = 0; i < k; i++) {
                noise(sum, k + i, eta);
                toPairs(sum);
                for (int j = 0; j < k; j++) {
                    addProduct(matrix[i * k + j], vector[j]);
                }
                reduce(sum);
                Bits.pack(sum, 12, publicKey.bytes, 384 * i);
            }
            System.arraycopy(pair, 0, publicKey.bytes, 384 * k, 32);
            publicKey.size = publicSize();
            System.arraycopy(publicKey.bytes, 0, secret.bytes, 384 * k, publicKey.size);
            hashPublic(publicKey.bytes, 0, secret.bytes, 768 * k + 32);
            System.arraycopy(random, 32, secret.bytes, 768 * k + 64, 32);
            secret.size = 768 * k + 96;
        }

        void wrap(byte[] publicKey, byte[] random, Bytes packet, Bytes shared) {
            hashPublic(publicKey, 0, input, 0);
            hashPair(random, 32, input, 0, 32);
            encrypt(publicKey, 0, random);
            packet.become(cipher, packetSize());
            shared.become(pair, 32);
        }

        /** Whether the packet is the one that its own plain text gives. */
        boolean open(byte[] secret, Bytes packet, Bytes shared) {
            decrypt(secret, packet.bytes);
            hashPair(plain, 32, secret, 768 * k + 32, 32);
            encrypt(secret, 384 * k, plain);
            if (Bits.alike(cipher, 0, packet.bytes, 0, packet.size)) {
                shared.become(pair, 32);
                return true;
            }
            Hash hash = hashes.start(SHAKE_256);
            hash.add(secret, 768 * k + 64, 32);
            hash.add(packet.bytes, 0, packet.size);
            hash.finish(shared.bytes, 0, 32);
            shared.size = 32;
            return false;
        }

        /** Leaves the ciphertext in `cipher`; its random bytes are the second half of `pair`. */
        private void encrypt(byte[] publicKey, int at, byte[] text) {
            expand(publicKey, at + 384 * k);
            for (int i = 0; i < k; i++) {
                noise(vector[i], i, eta);
                toPairs(vector[i]);
            }
            for (int i = 0; i < k; i++) {
                Arrays.fill(sum, 0);
                for (int j = 0; j < k; j++) {
                    addProduct(matrix[j * k + i], vector[j]);
                }
                finishPart(k + i, du, 32 * du * i, text);
            }
            Arrays.fill(sum, 0);
            for (int j = 0; j < k; j++) {
                Bits.unpack(publicKey, at + 384 * j, 12, other);
                addProduct(other, vector[j]);
            }
            finishPart(2 * k, dv, 32 * du * k, text);
        }

        /** Turns the sum into one of the ciphertext's polynomials; the last of them bears the text. */
        private void finishPart(int number, int bits, int at, byte[] text) {
            reduce(sum);
            fromPairs(sum);
            noise(other, number, 2);
            boolean bearsText = number == 2 * k;
            for (int c = 0; c < 256; c++) {
                int bit = bearsText ? text[c >> 3] >> (c & 7) & 1 : 0;
                sum[c] = compress(Math.floorMod(sum[c] + other[c] + decompress(bit, 1), Q), bits);
            }
            Bits.pack(sum, bits, cipher, at);
        }

        private void decrypt(byte[] secret, byte[] packet) {
            Arrays.fill(sum, 0);
            for (int j = 0; j < k; j++) {
                Bits.unpack(packet, 32 * du * j, du, other);
                for (int c = 0; c < 256; c++) {
                    other[c] = decompress(other[c], du);
                }
                toPairs(other);
                Bits.unpack(secret, 384 * j, 12, vector[j]);
                addProduct(vector[j], other);
            }
            reduce(sum);
            fromPairs(sum);
            Bits.unpack(packet, 32 * du * k, dv, other);
            for (int c = 0; c < 256; c++) {
                sum[c] = compress(Math.floorMod(decompress(other[c], dv) - sum[c], Q), 1);
            }
            Bits.pack(sum, 1, plain, 0);
        }

        private static int compress(int x, int d) {
            return ((x << d + 1) + Q) / (2 * Q) & (1 << d) - 1;
        }

        private static int decompress(int y, int d) {
            return (2 * Q * y + (1 << d)) >> d + 1;
        }

        private void hashPublic(byte[] publicKey, int at, byte[] to, int toAt) {
            Hash hash = hashes.start(SHA3_256);
            hash.add(publicKey, at, publicSize());
            hash.finish(to, toAt, 32);
        }

        /** Leaves the two halves of SHA3-512 of x's first n bytes and m more of y in `pair`. */
        private void hashPair(byte[] x, int n, byte[] y, int at, int m) {
            Hash hash = hashes.start(SHA3_512);
            hash.add(x, 0, n);
            hash.add(y, at, m);
            hash.finish(pair, 0, 64);
        }

        private void expand(byte[] seed, int at) {
            System.arraycopy(seed, at, input, 0, 32);
            for (int i = 0; i < k; i++) {
                for (int j = 0; j < k; j++) {
                    input[32] = (byte) j;
                    input[33] = (byte) i;
                    sample(matrix[i * k + j]);
                }
            }
        }

        private void sample(int[] f) {
            Sponge sponge = hashes.sponge;
            sponge.start(SHAKE_128);
            sponge.add(input, 0, 34);
            sponge.finish(row, 0, 3 * TRIPLES_A_BLOCK);
            int have = 0;
            for (int t = 0; t < MOST_TRIPLES && have < 256; t++) {
                int at = t % TRIPLES_A_BLOCK * 3;
                if (at == 0 && t > 0) {
                    sponge.goOn(row);
                }
                int middle = row[at + 1] & 255;
                int first = (row[at] & 255) + 256 * (middle % 16);
                int second = middle / 16 + 16 * (row[at + 2] & 255);
                if (first < Q) {
                    f[have++] = first;
                }
                if (second < Q && have < 256) {
                    f[have++] = second;
                }
            }
            if (have < 256) {
                throw new ArithmeticException("too many numbers were refused");
            }
        }

        /** CBD of the random bytes that the second half of `pair` and the number give. */
        private void noise(int[] f, int number, int e) {
            System.arraycopy(pair, 32, input, 0, 32);
            input[32] = (byte) number;
            Hash hash = hashes.start(SHAKE_256);
            hash.add(input, 0, 33);
            hash.finish(row, 0, 64 * e);
            int bit = 0;
            for (int i = 0; i < 256; i++) {
                int v = 0;
                for (int j = 0; j < 2 * e; j++, bit++) {
                    int one = row[bit >> 3] >> (bit & 7) & 1;
                    v += j < e ? one : -one;
                }
                f[i] = v;
            }
        }

        /** NTT: the answer is in 0 .. q - 1, and on the way no number comes to 8 q or more. */
        private void toPairs(int[] f) {
            int z = 1;
            for (int span = 128; span >= 2; span >>= 1) {
                for (int from = 0; from < 256; from += 2 * span) {
                    int zeta = zetas[z++];
                    for (int i = from; i < from + span; i++) {
                        int t = zeta * f[i + span] % Q;
                        f[i + span] = f[i] - t;
                        f[i] += t;
                    }
                }
            }
            reduce(f);
        }

        /** UNNTT: numbers double in each of the 7 steps, so 128 q times a zeta stays an int. */
        private void fromPairs(int[] f) {
            int z = 127;
            for (int span = 2; span <= 128; span <<= 1) {
                for (int from = 0; from < 256; from += 2 * span) {
                    int zeta = zetas[z--];
                    for (int i = from; i < from + span; i++) {
                        int t = f[i];
                        f[i] = t + f[i + span];
                        f[i + span] = zeta * (f[i + span] - t) % Q;
                    }
                }
            }
            for (int i = 0; i < 256; i++) {
                f[i] = f[i] * UNSCALE % Q;
            }
        }

        /** Adds f * g to the sum; numbers of 12 bits will do, and four products fit before a reduce. */
        private void addProduct(int[] f, int[] g) {
            for (int i = 0; i < 256; i += 2) {
                int high = f[i + 1] * g[i + 1] % Q;
                sum[i] += f[i] * g[i] + high * gammas[i >> 1];
                sum[i + 1] += f[i] * g[i + 1] + f[i + 1] * g[i];
            }
        }

        private static void reduce(int[] f) {
            for (int i = 0; i < 256; i++) {
                f[i] = Math.floorMod(f[i], Q);
            }
        }
    }

    /** The signatures over modules of polynomials. */
    private static final class Dsa {
        private static final int Q = 8380417;
        private static final int ROOT = 1753;
        /** The inverse of 256. */
        private static final int UNSCALE = 8347681;
        private static final int DROPPED = 13;
        private static final int MOST_TRIPLES = 298;
        private static final int TRIPLES_A_BLOCK = 56;
        private static final int MOST_SMALL = 481;
        private static final int MOST_BALL = 121;
        private static final int MOST_TRIES = 814;
        private static final int BLOCK_256 = 136;

        private static final int[] ROWS = {4, 6, 8};
        private static final int[] COLUMNS = {4, 5, 7};
        private static final int[] ETAS = {2, 4, 2};
        private static final int[] TAUS = {39, 49, 60};
        private static final int[] GAMMAS_1 = {1 << 17, 1 << 19, 1 << 19};
        private static final int[] GAMMAS_2 = {(Q - 1) / 88, (Q - 1) / 32, (Q - 1) / 32};
        private static final int[] OMEGAS = {80, 55, 75};
        private static final int[] CHALLENGE_SIZES = {32, 48, 64};

        private final Hashes hashes;
        private final int[] zetas = new int[256];
        private final int[][] matrix = new int[56][256];
        /** S, and E behind it. */
        private final int[][] small = new int[15][256];
        private final int[][] t = new int[8][256];
        private final int[][] y = new int[7][256];
        private final int[][] points = new int[7][256];
        private final int[][] w = new int[8][256];
        private final int[] ball = new int[256];
        private final int[] f = new int[256];
        private final int[] packed = new int[256];
        private final byte[] row = new byte[640];
        private final byte[] seeds = new byte[128];
        private final byte[] input = new byte[66];
        private final byte[] mu = new byte[64];
        private final byte[] challenge = new byte[64];
        private final byte[] hints = new byte[84];
        private int set;
        private int k;
        private int l;

        Dsa(Hashes hashes) {
            this.hashes = hashes;
            long power = 1;
            for (int i = 0; i < 256; i++) {
                zetas[Bits.turned(i, 8)] = (int) power;
                power = power * ROOT % Q;
            }
        }

        void choose(int chosen) {
            set = chosen;
            k = ROWS[chosen];
            l = COLUMNS[chosen];
        }

        int publicSize() {
            return 32 + 320 * k;
        }

        int secretSize() {
            return 128 + 32 * ((k + l) * smallBits() + DROPPED * k);
        }

        private int packetSize() {
            return CHALLENGE_SIZES[set] + l * 32 * maskBits() + OMEGAS[set] + k;
        }

        private int smallBits() {
            return ETAS[set] == 2 ? 3 : 4;
        }

        private int maskBits() {
            return set == 0 ? 18 : 20;
        }

        private int highBits() {
            return set == 0 ? 6 : 4;
        }

        private int bound() {
            return TAUS[set] * ETAS[set];
        }

        void keys(byte[] random, Bytes publicKey, Bytes secret) {
            expandSeeds(random);
            expand(seeds, 0);
            for (int i = 0; i < l + k; i++) {
                sampleSmall(small[i], i);
            }
            System.arraycopy(seeds, 0, publicKey.bytes, 0, 32);
            System.arraycopy(seeds, 0, secret.bytes, 0, 32);
            System.arraycopy(seeds, 96, secret.bytes, 32, 32);
            int at = 128;
            for (int i = 0; i < l + k; i++) {
                packFrom(ETAS[set], small[i], smallBits(), secret.bytes, at);
                at += 32 * smallBits();
            }
            for (int i = 0; i < l; i++) {
                toPoints(small[i]);
            }
            for (int i = 0; i < k; i++) {
                multiplyRow(i, small, t[i]);
                fromPoints(t[i]);
                splitTop(i, publicKey.bytes);
                packFrom(1 << DROPPED - 1, f, DROPPED, secret.bytes, at);
                at += 32 * DROPPED;
            }
            publicKey.size = publicSize();
            hash(publicKey.bytes, 0, publicKey.size, secret.bytes, 64);
            secret.size = secretSize();
        }

        private void expandSeeds(byte[] random) {
            System.arraycopy(random, 0, input, 0, 32);
            input[32] = (byte) k;
            input[33] = (byte) l;
            Hash hash = hashes.start(SHAKE_256);
            hash.add(input, 0, 34);
            hash.finish(seeds, 0, 128);
        }

        /** Puts the high part of T i into the public key and leaves the low part in f. */
        private void splitTop(int i, byte[] publicKey) {
            int half = 1 << DROPPED - 1;
            for (int c = 0; c < 256; c++) {
                int v = Math.floorMod(t[i][c] + small[l + i][c], Q);
                int high = (v + half - 1) >> DROPPED;
                f[c] = v - (high << DROPPED);
                t[i][c] = high;
            }
            Bits.pack(t[i], 10, publicKey, 32 + 320 * i);
        }

        /** SHAKE256 of n bytes, to 64. */
        private void hash(byte[] from, int at, int n, byte[] to, int toAt) {
            Hash hash = hashes.start(SHAKE_256);
            hash.add(from, at, n);
            hash.finish(to, toAt, 64);
        }

        private void hashSigned(byte[] from, int at, Signed x) {
            Hash hash = hashes.start(SHAKE_256);
            hash.add(from, at, 64);
            x.addTo(hash);
            hash.finish(mu, 0, 64);
        }

        /** How often it was tried. */
        int sign(byte[] secret, Bytes random, Signed x, Bytes packet) {
            hashSigned(secret, 64, x);
            startMasks(secret, random);
            expand(secret, 0);
            openSecret(secret);
            for (int tries = 1; tries <= MOST_TRIES; tries++) {
                if (attempt((tries - 1) * l)) {
                    writePacket(packet);
                    return tries;
                }
            }
            throw new ArithmeticException("no try gave a signature");
        }

        /** Leaves the seed of the masks in `seeds`; no RANDOM stands for zeros. */
        private void startMasks(byte[] secret, Bytes random) {
            Arrays.fill(row, 0, 32, (byte) 0);
            System.arraycopy(random.bytes, 0, row, 0, Math.min(random.size, 32));
            Hash hash = hashes.start(SHAKE_256);
            hash.add(secret, 32, 32);
            hash.add(row, 0, 32);
            hash.add(mu, 0, 64);
            hash.finish(seeds, 0, 64);
        }

        private void openSecret(byte[] secret) {
            int at = 128;
            for (int i = 0; i < l + k; i++) {
                unpackFrom(ETAS[set], secret, at, smallBits(), small[i]);
                toPoints(small[i]);
                at += 32 * smallBits();
            }
            for (int i = 0; i < k; i++) {
                unpackFrom(1 << DROPPED - 1, secret, at, DROPPED, t[i]);
                toPoints(t[i]);
                at += 32 * DROPPED;
            }
        }

        /** Whether a try with masks from this number on comes through; its y, challenge and hints stay. */
        private boolean attempt(int number) {
            for (int i = 0; i < l; i++) {
                fillMask(y[i], number + i);
                System.arraycopy(y[i], 0, points[i], 0, 256);
                toPoints(points[i]);
            }
            for (int i = 0; i < k; i++) {
                multiplyRow(i, points, w[i]);
                fromPoints(w[i]);
            }
            Hash hash = hashes.start(SHAKE_256);
            hash.add(mu, 0, 64);
            for (int i = 0; i < k; i++) {
                addHighs(hash, w[i]);
            }
            hash.finish(challenge, 0, CHALLENGE_SIZES[set]);
            fillBall(challenge);
            toPoints(ball);
            return finishMasks() && lowsAreSmall() && makeHints();
        }

        private void fillMask(int[] to, int number) {
            System.arraycopy(seeds, 0, input, 0, 64);
            input[64] = (byte) number;
            input[65] = (byte) (number >> 8);
            Hash hash = hashes.start(SHAKE_256);
            hash.add(input, 0, 66);
            hash.finish(row, 0, 32 * maskBits());
            unpackFrom(GAMMAS_1[set], row, 0, maskBits(), to);
        }

        private void addHighs(Hash hash, int[] from) {
            for (int c = 0; c < 256; c++) {
                f[c] = high(from[c]);
            }
            Bits.pack(f, highBits(), row, 0);
            hash.add(row, 0, 32 * highBits());
        }

        /** f becomes the ball times a secret polynomial, each number without sign at most (q - 1) / 2. */
        private void multiplyBall(int[] v) {
            for (int c = 0; c < 256; c++) {
                f[c] = (int) ((long) ball[c] * v[c] % Q);
            }
            fromPoints(f);
            for (int c = 0; c < 256; c++) {
                f[c] = centred(f[c]);
            }
        }

        private boolean finishMasks() {
            int most = GAMMAS_1[set] - bound();
            for (int i = 0; i < l; i++) {
                multiplyBall(small[i]);
                for (int c = 0; c < 256; c++) {
                    y[i][c] += f[c];
                    if (Math.abs(y[i][c]) >= most) {
                        return false;
                    }
                }
            }
            return true;
        }

        private boolean lowsAreSmall() {
            int most = GAMMAS_2[set] - bound();
            for (int i = 0; i < k; i++) {
                multiplyBall(small[l + i]);
                for (int c = 0; c < 256; c++) {
                    w[i][c] = Math.floorMod(w[i][c] - f[c], Q);
                    if (Math.abs(low(w[i][c])) >= most) {
                        return false;
                    }
                }
            }
            return true;
        }

        private boolean makeHints() {
            int omega = OMEGAS[set];
            Arrays.fill(hints, (byte) 0);
            int hinted = 0;
            for (int i = 0; i < k; i++) {
                multiplyBall(t[i]);
                for (int c = 0; c < 256; c++) {
                    if (Math.abs(f[c]) >= GAMMAS_2[set]) {
                        return false;
                    }
                    if (high(Math.floorMod(w[i][c] + f[c], Q)) != high(w[i][c])) {
                        if (hinted == omega) {
                            return false;
                        }
                        hints[hinted++] = (byte) c;
                    }
                }
                hints[omega + i] = (byte) hinted;
            }
            return true;
        }

        private void writePacket(Bytes packet) {
            int at = CHALLENGE_SIZES[set];
            System.arraycopy(challenge, 0, packet.bytes, 0, at);
            for (int i = 0; i < l; i++) {
                packFrom(GAMMAS_1[set], y[i], maskBits(), packet.bytes, at);
                at += 32 * maskBits();
            }
            System.arraycopy(hints, 0, packet.bytes, at, OMEGAS[set] + k);
            packet.size = packetSize();
        }

        /** Whether the packet has the form of a signature; leaves its masks in y. */
        boolean takesPacket(Bytes packet) {
            if (packet.size != packetSize() || !hintsAreOrdered(packet.bytes)) {
                return false;
            }
            int most = GAMMAS_1[set] - bound();
            int bits = maskBits();
            for (int i = 0; i < l; i++) {
                unpackFrom(GAMMAS_1[set], packet.bytes, CHALLENGE_SIZES[set] + 32 * bits * i, bits, y[i]);
                for (int c = 0; c < 256; c++) {
                    if (Math.abs(y[i][c]) >= most) {
                        return false;
                    }
                }
            }
            return true;
        }

        private boolean hintsAreOrdered(byte[] packet) {
            int omega = OMEGAS[set];
            int at = packetSize() - omega - k;
            int from = 0;
            for (int i = 0; i < k; i++) {
                int upTo = packet[at + omega + i] & 255;
                if (upTo < from || upTo > omega) {
                    return false;
                }
                for (int j = from + 1; j < upTo; j++) {
                    if ((packet[at + j - 1] & 255) >= (packet[at + j] & 255)) {
                        return false;
                    }
                }
                from = upTo;
            }
            for (int j = from; j < omega; j++) {
                if (packet[at + j] != 0) {
                    return false;
                }
            }
            return true;
        }

        /** Of a packet that takesPacket has found good. */
        boolean verify(byte[] publicKey, Signed x, byte[] packet, Bytes shared) {
            expand(publicKey, 0);
            fillBall(packet);
            toPoints(ball);
            hash(publicKey, 0, publicSize(), seeds, 0);
            hashSigned(seeds, 0, x);
            for (int i = 0; i < l; i++) {
                toPoints(y[i]);
            }
            for (int i = 0; i < k; i++) {
                recover(i, publicKey);
            }
            applyHints(packet);
            Hash hash = hashes.start(SHAKE_256);
            hash.add(mu, 0, 64);
            for (int i = 0; i < k; i++) {
                Bits.pack(w[i], highBits(), row, 0);
                hash.add(row, 0, 32 * highBits());
            }
            shared.size = CHALLENGE_SIZES[set];
            hash.finish(shared.bytes, 0, shared.size);
            return Bits.alike(shared.bytes, 0, packet, 0, shared.size);
        }

        /** w[i] becomes X i of the verification. */
        private void recover(int i, byte[] publicKey) {
            Bits.unpack(publicKey, 32 + 320 * i, 10, f);
            for (int c = 0; c < 256; c++) {
                f[c] <<= DROPPED;
            }
            toPoints(f);
            multiplyRow(i, y, w[i]);
            for (int c = 0; c < 256; c++) {
                w[i][c] = (int) ((w[i][c] - (long) ball[c] * f[c]) % Q);
            }
            fromPoints(w[i]);
        }

        /** Each of w becomes its high part, moved by one where there is a hint. */
        private void applyHints(byte[] packet) {
            int omega = OMEGAS[set];
            int at = packetSize() - omega - k;
            int highs = (Q - 1) / 2 / GAMMAS_2[set];
            int next = 0;
            for (int i = 0; i < k; i++) {
                int upTo = packet[at + omega + i] & 255;
                for (int c = 0; c < 256; c++) {
                    int r = w[i][c];
                    w[i][c] = high(r);
                    if (next < upTo && (packet[at + next] & 255) == c) {
                        w[i][c] = Math.floorMod(high(r) + (low(r) > 0 ? 1 : -1), highs);
                        next++;
                    }
                }
            }
        }

        /** LOW of a number in 0 .. q - 1. */
        private int low(int r) {
            int half = GAMMAS_2[set];
            int v = r % (2 * half);
            if (v > half) {
                v -= 2 * half;
            }
            return r - v == Q - 1 ? v - 1 : v;
        }

        // Where low has taken one away because r is next to q, r - low is q itself.
        private int high(int r) {
            int rest = r - low(r);
            return rest == Q ? 0 : rest / (2 * GAMMAS_2[set]);
        }

        private static int centred(int v) {
            return v > (Q - 1) / 2 ? v - Q : v;
        }

        private void packFrom(int most, int[] v, int bits, byte[] to, int at) {
            for (int c = 0; c < 256; c++) {
                packed[c] = most - v[c];
            }
            Bits.pack(packed, bits, to, at);
        }

        private void unpackFrom(int most, byte[] from, int at, int bits, int[] v) {
            Bits.unpack(from, at, bits, v);
            for (int c = 0; c < 256; c++) {
                v[c] = most - v[c];
            }
        }

        private void expand(byte[] seed, int at) {
            System.arraycopy(seed, at, input, 0, 32);
            for (int i = 0; i < k; i++) {
                for (int j = 0; j < l; j++) {
                    input[32] = (byte) j;
                    input[33] = (byte) i;
                    sample(matrix[i * l + j]);
                }
            }
        }

        private void sample(int[] to) {
            Sponge sponge = hashes.sponge;
            sponge.start(SHAKE_128);
            sponge.add(input, 0, 34);
            sponge.finish(row, 0, 3 * TRIPLES_A_BLOCK);
            int have = 0;
            for (int i = 0; i < MOST_TRIPLES && have < 256; i++) {
                int at = i % TRIPLES_A_BLOCK * 3;
                if (at == 0 && i > 0) {
                    sponge.goOn(row);
                }
                int v = (row[at] & 255) + 256 * (row[at + 1] & 255) + 65536 * (row[at + 2] & 127);
                if (v < Q) {
                    to[have++] = v;
                }
            }
            if (have < 256) {
                throw new ArithmeticException("too many numbers were refused");
            }
        }

        private void sampleSmall(int[] to, int number) {
            System.arraycopy(seeds, 32, input, 0, 64);
            input[64] = (byte) number;
            input[65] = (byte) (number >> 8);
            Sponge sponge = hashes.sponge;
            sponge.start(SHAKE_256);
            sponge.add(input, 0, 66);
            sponge.finish(row, 0, BLOCK_256);
            int have = 0;
            for (int i = 0; i < 2 * MOST_SMALL && have < 256; i++) {
                if (i % (2 * BLOCK_256) == 0 && i > 0) {
                    sponge.goOn(row);
                }
                int v = row[i / 2 % BLOCK_256] >> 4 * (i % 2) & 15;
                if (v < (ETAS[set] == 2 ? 15 : 9)) {
                    to[have++] = ETAS[set] == 2 ? 2 - v % 5 : 4 - v;
                }
            }
            if (have < 256) {
                throw new ArithmeticException("too many numbers were refused");
            }
        }

        private void fillBall(byte[] from) {
            Hash hash = hashes.start(SHAKE_256);
            hash.add(from, 0, CHALLENGE_SIZES[set]);
            hash.finish(row, 0, 8 + MOST_BALL);
            Arrays.fill(ball, 0);
            int i = 256 - TAUS[set];
            for (int at = 8; at < 8 + MOST_BALL && i < 256; at++) {
                int j = row[at] & 255;
                if (j <= i) {
                    int bit = i + TAUS[set] - 256;
                    ball[i] = ball[j];
                    ball[j] = (row[bit >> 3] >> (bit & 7) & 1) == 1 ? -1 : 1;
                    i++;
                }
            }
            if (i < 256) {
                throw new ArithmeticException("too many places were refused");
            }
        }

        private void multiplyRow(int i, int[][] v, int[] to) {
            for (int c = 0; c < 256; c++) {
                long sum = 0;
                for (int j = 0; j < l; j++) {
                    sum += (long) matrix[i * l + j][c] * v[j][c];
                }
                to[c] = (int) (sum % Q);
            }
        }

        /** NTT: the answer is not reduced, but stays below 9 q, so that sums of products fit a long. */
        private void toPoints(int[] v) {
            int z = 1;
            for (int span = 128; span >= 1; span >>= 1) {
                for (int from = 0; from < 256; from += 2 * span) {
                    long zeta = zetas[z++];
                    for (int i = from; i < from + span; i++) {
                        int x = (int) (zeta * v[i + span] % Q);
                        v[i + span] = v[i] - x;
                        v[i] += x;
                    }
                }
            }
        }

        /** UNNTT, to 0 .. q - 1: numbers below q double in each of 8 steps, and 256 q is still an int. */
        private void fromPoints(int[] v) {
            int z = 255;
            for (int span = 1; span <= 128; span <<= 1) {
                for (int from = 0; from < 256; from += 2 * span) {
                    long zeta = zetas[z--];
                    for (int i = from; i < from + span; i++) {
                        int x = v[i];
                        v[i] = x + v[i + span];
                        v[i + span] = (int) (zeta * (v[i + span] - x) % Q);
                    }
                }
            }
            for (int c = 0; c < 256; c++) {
                v[c] = (int) Math.floorMod((long) v[c] * UNSCALE, (long) Q);
            }
        }
    }

    /** The signatures from hash trees alone. */
    private static final class Slh {
        private static final int STEP = 0;
        private static final int ENDS = 1;
        static final int TREE = 2;
        private static final int FOREST = 3;
        private static final int ROOTS = 4;
        private static final int CHAIN_SECRET = 5;
        private static final int FOREST_SECRET = 6;

        private static final int[] SIZES = {16, 16, 24, 24, 32, 32};
        private static final int[] HEIGHTS = {63, 66, 63, 66, 64, 68};
        private static final int[] LAYERS = {7, 22, 7, 22, 8, 17};
        private static final int[] FOREST_HEIGHTS = {12, 6, 14, 8, 14, 9};
        private static final int[] FOREST_TREES = {14, 33, 17, 33, 22, 35};

        private final Hashes hashes;
        private Hash narrow;
        private Hash wide;
        private boolean bySponge;
        int n;
        int layers;
        int height;
        private int forestHeight;
        private int forestTrees;
        private int chains;
        private int treeBits;
        private int wideKind;
        private final byte[] address = new byte[32];
        private final byte[] secretSeed = new byte[32];
        private final byte[] value = new byte[32];
        private final byte[] both = new byte[64];
        private final byte[] rows = new byte[67 * 32];
        private final byte[] stack = new byte[15 * 32];
        private final byte[] chosen = new byte[64];
        private final int[] digits = new int[67];

        Slh(Hashes hashes) {
            this.hashes = hashes;
            narrow = hashes.sponge;
            wide = hashes.sponge;
        }

        void choose(int set) {
            int i = set % 6;
            bySponge = set < 6;
            n = SIZES[i];
            layers = LAYERS[i];
            height = HEIGHTS[i] / layers;
            treeBits = HEIGHTS[i] - height;
            forestHeight = FOREST_HEIGHTS[i];
            forestTrees = FOREST_TREES[i];
            chains = 2 * n + 3;
            wideKind = bySponge ? SHAKE_256 : n == 16 ? SHA_256 : SHA_512;
            narrow = hashes.of(bySponge ? SHAKE_256 : SHA_256);
            wide = hashes.of(wideKind);
            Arrays.fill(address, (byte) 0);
        }

        int packetSize() {
            return n + forestSize() + layers * layerSize();
        }

        private int forestSize() {
            return n * forestTrees * (1 + forestHeight);
        }

        private int layerSize() {
            return n * (chains + height);
        }

        void keys(byte[] random, Bytes publicKey, Bytes secret) {
            System.arraycopy(random, 0, secret.bytes, 0, 3 * n);
            takeSeeds(secret.bytes);
            place(layers - 1, 0);
            node(TREE, 0, height, 0, secret.bytes, 3 * n);
            secret.size = 4 * n;
            System.arraycopy(secret.bytes, 2 * n, publicKey.bytes, 0, 2 * n);
            publicKey.size = 2 * n;
        }

        /** The first of three steps of a signature: its random bytes, and the places that they choose. */
        void startSign(byte[] secret, Bytes random, Signed x, byte[] to) {
            boolean none = random.size == 0;
            randomize(secret, none ? secret : random.bytes, none ? 2 * n : 0, x, to);
            choosePlaces(to, secret, 2 * n, x);
            takeSeeds(secret);
        }

        /** The second step; the value becomes the root of the forest. */
        void signForest(byte[] to) {
            int pair = chosenLeaf();
            int at = n;
            place(0, chosenTree());
            for (int j = 0; j < forestTrees; j++) {
                int leaf = chosenForestLeaf(j);
                name(FOREST_SECRET, pair, 0, leaf);
                hash(secretSeed, 0, n, to, at);
                at += n;
                for (int z = 0; z < forestHeight; z++) {
                    node(FOREST, pair, z, leaf >> z ^ 1, to, at);
                    at += n;
                }
            }
            forestRoot(pair, to, n);
        }

        /** The third step: each tree signs the value, which becomes the root of that tree. */
        void signTrees(byte[] to) {
            long tree = chosenTree();
            int leaf = chosenLeaf();
            int at = n + forestSize();
            for (int layer = 0; layer < layers; layer++) {
                place(layer, tree);
                signChains(leaf, to, at);
                for (int j = 0; j < height; j++) {
                    node(TREE, 0, j, leaf >> j ^ 1, to, at + (chains + j) * n);
                }
                treeRoot(leaf, to, at);
                leaf = (int) tree & (1 << height) - 1;
                tree >>>= height;
                at += layerSize();
            }
        }

        /** Of a packet of the due size. */
        boolean verify(byte[] publicKey, Signed x, byte[] packet, Bytes shared) {
            choosePlaces(packet, publicKey, 0, x);
            takePublicSeed(publicKey, 0);
            long tree = chosenTree();
            int leaf = chosenLeaf();
            place(0, tree);
            forestRoot(leaf, packet, n);
            int at = n + forestSize();
            for (int layer = 0; layer < layers; layer++) {
                place(layer, tree);
                treeRoot(leaf, packet, at);
                leaf = (int) tree & (1 << height) - 1;
                tree >>>= height;
                at += layerSize();
            }
            shared.become(value, n);
            return Bits.alike(value, 0, publicKey, n, n);
        }

        void takeSeeds(byte[] secret) {
            System.arraycopy(secret, 0, secretSeed, 0, n);
            takePublicSeed(secret, 2 * n);
        }

        private void takePublicSeed(byte[] from, int at) {
            markSeed(bySponge ? SHAKE_256 : SHA_256, from, at);
            if (wide != narrow) {
                markSeed(wideKind, from, at);
            }
        }

        private void markSeed(int kind, byte[] from, int at) {
            Hash hash = hashes.start(kind);
            hash.add(from, at, n);
            if (!bySponge) {
                Arrays.fill(rows, 0, hash.rate, (byte) 0);
                hash.add(rows, 0, hash.rate - n);
            }
            hash.mark();
        }

        private void randomize(byte[] secret, byte[] r, int at, Signed x, byte[] to) {
            if (bySponge) {
                Hash hash = hashes.start(SHAKE_256);
                hash.add(secret, n, n);
                hash.add(r, at, n);
                x.addTo(hash);
                hash.finish(to, 0, n);
            } else {
                Hash hash = hashes.startMac(wideKind, secret, n, n);
                hash.add(r, at, n);
                x.addTo(hash);
                hashes.finishMac(wideKind, to, 0, n);
            }
        }

        /** Leaves D(R, x) in `chosen`; Q and root stand in the key one behind the other. */
        private void choosePlaces(byte[] packet, byte[] key, int at, Signed x) {
            Hash hash = hashes.start(wideKind);
            hash.add(packet, 0, n);
            hash.add(key, at, 2 * n);
            x.addTo(hash);
            int size = forestBytes() + treeBytes() + 2;
            if (bySponge) {
                hash.finish(chosen, 0, size);
                return;
            }
            hash.finish(both, 0, HASH_SIZES[wideKind]);
            hash.start(wideKind);
            hash.add(packet, 0, n);
            hash.add(key, at, n);
            hash.add(both, 0, HASH_SIZES[wideKind]);
            hashes.finishMask(wideKind, chosen, size);
        }

        private int forestBytes() {
            return (forestTrees * forestHeight + 7) / 8;
        }

        private int treeBytes() {
            return (treeBits + 7) / 8;
        }

        private long chosenTree() {
            long tree = 0;
            for (int i = 0; i < treeBytes(); i++) {
                tree = tree << 8 | chosen[forestBytes() + i] & 255;
            }
            return tree << 64 - treeBits >>> 64 - treeBits;
        }

        private int chosenLeaf() {
            int at = forestBytes() + treeBytes();
            int leaf = 0;
            for (int i = 0; i < (height + 7) / 8; i++) {
                leaf = leaf << 8 | chosen[at + i] & 255;
            }
            return leaf & (1 << height) - 1;
        }

        /** The leaf that the digest chooses in tree j of the forest, counted through all its trees. */
        private int chosenForestLeaf(int j) {
            int leaf = j;
            for (int bit = j * forestHeight; bit < (j + 1) * forestHeight; bit++) {
                leaf = leaf << 1 | chosen[bit >> 3] >> 7 - (bit & 7) & 1;
            }
            return leaf;
        }

        void place(int layer, long tree) {
            int at = bySponge ? 8 : 1;
            address[bySponge ? 3 : 0] = (byte) layer;
            Bits.putInt((int) (tree >>> 32), address, at);
            Bits.putInt((int) tree, address, at + 4);
        }

        private void name(int type, int x, int y, int z) {
            int at = bySponge ? 19 : 9;
            address[at] = (byte) type;
            Bits.putInt(x, address, at + 1);
            Bits.putInt(y, address, at + 5);
            Bits.putInt(z, address, at + 9);
        }

        /** F of the address as it is named and of bytes, which the answer may overwrite. */
        private void hash(byte[] from, int at, int size, byte[] to, int toAt) {
            Hash hash = size > n ? wide : narrow;
            hash.recall();
            hash.add(address, 0, bySponge ? 32 : 22);
            hash.add(from, at, size);
            hash.finish(to, toAt, n);
        }

        /** Takes the n bytes at a place through steps of a chain. */
        private void chain(int pair, int number, int from, int steps, byte[] in, int at) {
            name(STEP, pair, number, from);
            int size = bySponge ? 32 : 22;
            for (int j = from; j < from + steps; j++) {
                address[size - 1] = (byte) j;
                narrow.recall();
                narrow.add(address, 0, size);
                narrow.add(in, at, n);
                narrow.finish(in, at, n);
            }
        }

        private void leaf(int pair, byte[] to, int at) {
            for (int j = 0; j < chains; j++) {
                name(CHAIN_SECRET, pair, j, 0);
                hash(secretSeed, 0, n, rows, j * n);
                chain(pair, j, 0, 15, rows, j * n);
            }
            name(ENDS, pair, 0, 0);
            hash(rows, 0, chains * n, to, at);
        }

        private void forestLeaf(int pair, int j, byte[] to, int at) {
            name(FOREST_SECRET, pair, 0, j);
            hash(secretSeed, 0, n, to, at);
            name(FOREST, pair, 0, j);
            hash(to, at, n, to, at);
        }

        /** NODE or FNODE, by type: the stack holds the roots of the full parts to the left. */
        void node(int type, int pair, int z, int i, byte[] to, int at) {
            int top = 0;
            for (int c = 0; c < 1 << z; c++) {
                int index = (i << z) + c;
                if (type == TREE) {
                    leaf(index, stack, top * n);
                } else {
                    forestLeaf(pair, index, stack, top * n);
                }
                for (int level = 1; level <= z && (c >> level - 1 & 1) == 1; level++) {
                    top--;
                    name(type, pair, level, index >> level);
                    hash(stack, top * n, 2 * n, stack, top * n);
                }
                top++;
            }
            System.arraycopy(stack, 0, to, at, n);
        }

        private void fillDigits() {
            int sum = 0;
            for (int i = 0; i < 2 * n; i++) {
                digits[i] = value[i >> 1] >> (i % 2 == 0 ? 4 : 0) & 15;
                sum += 15 - digits[i];
            }
            digits[2 * n] = sum >> 8 & 15;
            digits[2 * n + 1] = sum >> 4 & 15;
            digits[2 * n + 2] = sum & 15;
        }

        private void signChains(int pair, byte[] to, int at) {
            fillDigits();
            for (int j = 0; j < chains; j++) {
                name(CHAIN_SECRET, pair, j, 0);
                hash(secretSeed, 0, n, to, at + j * n);
                chain(pair, j, 0, digits[j], to, at + j * n);
            }
        }

        /** The value becomes XROOT of it. */
        private void treeRoot(int pair, byte[] from, int at) {
            fillDigits();
            System.arraycopy(from, at, rows, 0, chains * n);
            for (int j = 0; j < chains; j++) {
                chain(pair, j, digits[j], 15 - digits[j], rows, j * n);
            }
            name(ENDS, pair, 0, 0);
            hash(rows, 0, chains * n, value, 0);
            climb(TREE, 0, pair, height, from, at + chains * n);
        }

        /** The value becomes FROOT. */
        private void forestRoot(int pair, byte[] from, int at) {
            int next = at;
            for (int j = 0; j < forestTrees; j++) {
                int leaf = chosenForestLeaf(j);
                name(FOREST, pair, 0, leaf);
                hash(from, next, n, value, 0);
                climb(FOREST, pair, leaf, forestHeight, from, next + n);
                System.arraycopy(value, 0, rows, j * n, n);
                next += n * (1 + forestHeight);
            }
            name(ROOTS, pair, 0, 0);
            hash(rows, 0, forestTrees * n, value, 0);
        }

        /** The value, node `index` of the lowest level, becomes the root that it has by its neighbours. */
        private void climb(int type, int pair, int index, int levels, byte[] from, int at) {
            for (int j = 0; j < levels; j++) {
                int mine = (index >> j & 1) * n;
                System.arraycopy(value, 0, both, mine, n);
                System.arraycopy(from, at + j * n, both, n - mine, n);
                name(type, pair, j + 1, index >> j + 1);
                hash(both, 0, 2 * n, value, 0);
            }
        }
    }
}
