/** The terms from their first line on: slots, notation and the hash functions, by PlainSha and by Plain's SPONGE. */
public final class TermsTest {
    private static final int[] LENGTHS = {0, 1, 3, 55, 56, 64, 71, 72, 111, 112, 135, 136, 143, 144, 167, 168, 300};

    public static void main(String[] args) {
        slotsByNumber();
        joined();
        lowestAndHighestFirst();
        bitsOfBytes();
        sponges();
        permutations();
        shaThree();
        shaTwo();
        constants();
        otherStarts();
        macs();
        masks();
        wordingAndStandards();
        hashesByHow();
        Check.end("TermsTest");
    }

    private static byte[] digest(int kind, byte[] key, byte[] text, int n) {
        LatticeSuite x = new LatticeSuite();
        Check.put(x, Check.RANDOM, key);
        Check.put(x, Check.MESSAGE, text);
        x.digest(kind, n);
        return Check.get(x, Check.SHARED);
    }

    private static byte[] digest(int kind, byte[] text) {
        return digest(kind, new byte[0], text, 64);
    }

    private static void slotsByNumber() {
        Check.says("Terms", "0 RANDOM, 1 PUBLIC, 2 SECRET, 3 MESSAGE, 4 CONTEXT, 5 PACKET (a ciphertext or"
                + " signature), 6 SHARED, 7 SPARE.");
        LatticeSuite x = new LatticeSuite();
        PlainKem kem = new PlainKem(0);
        byte[][] keys = kem.keys(Check.some(1, 64));
        Check.put(x, 7, Check.some(9, 9));
        Check.put(x, 0, Check.some(1, 64));
        x.kemKeys(0);
        Check.slotIs("PUBLIC", x, 1, keys[0]);
        Check.slotIs("SECRET", x, 2, keys[1]);
        Check.put(x, 0, Check.some(2, 32));
        x.kemWrap(0);
        Check.slotIs("SHARED", x, 6, kem.wrap(keys[0], Check.some(2, 32))[1]);
        Check.slotIs("PACKET, a ciphertext", x, 5, kem.wrap(keys[0], Check.some(2, 32))[0]);
        PlainDsa dsa = new PlainDsa(0);
        Check.put(x, 3, Check.some(3, 30));
        Check.put(x, 4, Check.some(4, 4));
        x.dsaKeys(0);
        x.dsaSign(0, 0);
        byte[] signed = Plain.signed(0, Check.some(4, 4), Check.some(3, 30));
        byte[] signature = dsa.sign(dsa.keys(Check.some(2, 32))[1], signed, Check.some(2, 32))[0];
        Check.slotIs("MESSAGE", x, 3, Check.some(3, 30));
        Check.slotIs("PACKET, a signature", x, 5, signature);
        Check.slotIs("RANDOM", x, 0, Check.some(2, 32));
        Check.slotIs("CONTEXT", x, 4, Check.some(4, 4));
        Check.slotIs("SPARE", x, 7, Check.some(9, 9));
    }

    /** What is signed with CONTEXT is what how -1 signs if MESSAGE is the same bytes, put together by hand. */
    private static void joined() {
        Check.says("Terms", "x | y: the BYTES of x, then those of y; a number there is one BYTE, but where le or be"
                + " is said.");
        LatticeSuite x = new LatticeSuite();
        x.resize(Check.RANDOM, 32);
        x.dsaKeys(0);
        Check.put(x, Check.CONTEXT, Plain.of(7, 8, 9));
        Check.put(x, Check.MESSAGE, Plain.of(5, 6));
        x.dsaSign(0, 0);
        x.copy(Check.PACKET, Check.SPARE);
        Check.put(x, Check.MESSAGE, Plain.of(0, 3, 7, 8, 9, 5, 6));
        x.dsaSign(0, -1);
        Check.holds("0 | 3 | CONTEXT | MESSAGE", x.same(Check.PACKET, Check.SPARE));
        x.resize(Check.CONTEXT, 255);
        Check.put(x, Check.MESSAGE, Plain.of(5, 6));
        x.dsaSign(0, 0);
        x.copy(Check.PACKET, Check.SPARE);
        byte[] bytes = new byte[259];
        System.arraycopy(Plain.of(0, 255, 7, 8, 9), 0, bytes, 0, 5);
        System.arraycopy(Plain.of(5, 6), 0, bytes, 257, 2);
        Check.put(x, Check.MESSAGE, bytes);
        x.dsaSign(0, -1);
        Check.holds("0 | 255 | CONTEXT | MESSAGE", x.same(Check.PACKET, Check.SPARE));
    }

    private static void lowestAndHighestFirst() {
        Check.says("Terms", "le(v, n), be(v, n): v in n BYTES, the lowest or the highest first.");
        byte[] mask = digest(15, new byte[0], Plain.of(1, 2, 3), 32 * 259);
        byte[] want = digest(1, Plain.of(1, 2, 3, 0, 0, 1, 2));
        Check.bytes("part 258 of MGF1 is by be(258, 4)", Plain.part(mask, 32 * 258, 32), want);
        LatticeSuite x = new LatticeSuite();
        Check.put(x, Check.RANDOM, Check.some(1, 32));
        x.dsaKeys(0);
        x.copy(Check.SECRET, Check.SPARE);
        byte[] secret = Plain.shake256(Check.join(Check.some(1, 32), Plain.of(4, 4)), 128);
        byte[] small = Plain.shake256(Check.join(Plain.part(secret, 32, 64), Plain.of(1, 0)), 20);
        int at = 0;
        for (int c = 0; c < 20; at++) {
            int v = small[at / 2] >> 4 * (at % 2) & 15;
            if (v < 15) {
                // S 1 stands behind the 96 bytes of S 0, by three bits a number.
                int bits = (int) (x.word(Check.SPARE, 128 + 96 + 3 * c / 8) >>> 48);
                int packed = (bits >> 8 | bits << 8) >> 3 * c % 8 & 7;
                Check.due("S 1 is by le(1, 2), coefficient " + c, packed, v % 5);
                c++;
            }
        }
    }

    /** The text of a ciphertext with one bit of 1 differs from that of zeros at that coefficient alone. */
    private static void bitsOfBytes() {
        Check.says("Terms", "Bit j of BYTES is bit j % 8 (0 the lowest) of byte j / 8.");
        PlainKem kem = new PlainKem(1);
        byte[] key = kem.keys(Check.some(1, 64))[0];
        LatticeSuite x = new LatticeSuite();
        Check.put(x, Check.RANDOM, Check.some(1, 64));
        x.kemKeys(1);
        for (int j : new int[] {0, 1, 7, 8, 9, 100, 248, 255}) {
            byte[] m = new byte[32];
            m[j / 8] = (byte) (1 << j % 8);
            Check.put(x, Check.RANDOM, m);
            x.kemWrap(1);
            Check.slotIs("bit " + j, x, Check.PACKET, kem.wrap(key, m)[0]);
        }
    }

    private static void sponges() {
        Check.says("Terms", "SPONGE(R, s, x, n): 25 LANES A[a, b], a, b 0 .. 4, of 64 bits, 0; x | s, then zeros up"
                + " to a multiple of R, the last byte of all ^ 128; each R BYTES of that: LANE (a, b) ^ the eight"
                + " BYTES from 8 (a + 5 b) on (those below R), the lowest first; then PERMUTE; then the BYTES of"
                + " the LANES in that order, R of them, PERMUTE, R of them, .., n in all.");
        for (int length : LENGTHS) {
            byte[] text = Check.some(length, length);
            Check.bytes("SHAKE128", digest(11, new byte[0], text, 500), Plain.sponge(168, 31, text, 500));
            Check.bytes("SHAKE256", digest(12, new byte[0], text, 500), Plain.sponge(136, 31, text, 500));
        }
    }

    /** SHAKE128 of nothing for the first block: its 21 lanes are those of one PERMUTE. */
    private static void permutations() {
        Check.says("Terms", "PERMUTE: for i 0 .. 23: C[a] = the ^ of all A[a, b]; A[a, b] ^= C[a - 1] ^ rotl(C[a +"
                + " 1], 1); B[b, 2 a + 3 b] = rotl(A[a, b], o[a, b]); A[a, b] = B[a, b] ^ (~B[a + 1, b] & B[a + 2,"
                + " b]); A[0, 0] ^= RC i.");
        oneBlock();
        Check.says("Terms", " (All places modulo 5.) o[0, 0] = 0; with (a, b) = (1, 0) first and then (b, 2 a + 3"
                + " b), o[a, b] = (t + 1)(t + 2) / 2 modulo 64 for t 0 .. 23.");
        oneBlock();
        Check.says("Terms", "RC i: bit 2^j - 1 is c(j + 7 i), j 0 .. 6, others 0; c(t) is the lowest bit of a byte"
                + " that is 1 for t = 0 (and each 255) and for each further t is shifted to the left by one, ^ 113"
                + " (without what goes out) if a 1 goes out.");
        oneBlock();
    }

    private static void oneBlock() {
        for (int length = 0; length < 168; length += 8) {
            // One bit of 1 in each lane by turns.
            byte[] text = new byte[length + 1];
            text[length] = (byte) (1 << length / 8 % 8);
            Check.bytes("a bit in byte " + length, digest(11, new byte[0], text, 168), Plain.sponge(168, 31, text, 168));
        }
    }

    private static void shaThree() {
        Check.says("Terms", "SHA3-b (b 224, 256, 384, 512): SPONGE(200 - b / 4, 6, x, b / 8).");
        for (int kind = 7; kind <= 10; kind++) {
            int b = new int[] {224, 256, 384, 512}[kind - 7];
            for (int length : LENGTHS) {
                byte[] text = Check.some(length, length);
                Check.bytes("SHA3-" + b, digest(kind, text), Plain.sponge(200 - b / 4, 6, text, b / 8));
            }
        }
    }

    private static void shaTwo() {
        Check.says("Terms", "SHA-256: words of 32 bits, blocks of 64 BYTES, 64 rounds; SHA-512: 64 bits, 128 BYTES,"
                + " 80 rounds.");
        compare(1, 3);
        Check.says("Terms", "A block: W t its words (the highest byte first), behind them W t = s1(W t-2) + W t-7 +"
                + " s0(W t-15) + W t-16. a .. h = H0 .. H7; for each t: T = h + S1(e) + (e & f ^ ~e & g) + K t + W"
                + " t; U = S0(a) + (a & b ^ a & c ^ b & c); h = g, g = f, f = e, e = d + T, d = c, c = b, b = a, a"
                + " = T + U; then each H += its letter.");
        compare(1, 3);
        Check.says("Terms", "SHA-256: S0 rotr 2 ^ rotr 13 ^ rotr 22; S1 6, 11, 25; s0 rotr 7 ^ rotr 18 ^ >> 3; s1"
                + " 17, 19, >> 10. SHA-512: S0 28, 34, 39; S1 14, 18, 41; s0 1, 8, >> 7; s1 19, 61, >> 6. The"
                + " result: H0 .. H7, the highest byte of each first.");
        compare(1, 3);
    }

    private static void constants() {
        Check.says("Terms", "H0 .. H7: the first 32 or 64 bits of the fractional parts of the square roots of the"
                + " first 8 primes; K t: likewise of the cube roots of the first 64 or 80.");
        compare(1, 3);
    }

    private static void otherStarts() {
        Check.says("Terms", "SHA-224: SHA-256 with H the bits 33 to 64 of the fractional parts of the square roots"
                + " of the 9th to 16th prime, cut to 28 BYTES; SHA-384: SHA-512 with H the first 64 bits of these,"
                + " cut to 48; SHA-512/224, SHA-512/256: SHA-512, cut to 28, 32, with H the words of SHA-512 of the"
                + " letters of its name (SHA-512/224 or SHA-512/256) by H0 .. H7 each ^ a5a5a5a5a5a5a5a5 (in"
                + " sixteens).");
        compare(2, 4, 5, 6);
    }

    private static void compare(int... kinds) {
        for (int kind : kinds) {
            for (int length : LENGTHS) {
                byte[] text = Check.some(length + kind, length);
                Check.bytes("kind " + kind + " of " + length, digest(kind, text), PlainSha.hash(kind, text));
            }
        }
    }

    private static void macs() {
        Check.says("Terms", "HMAC-h(k, x), h SHA-256 or SHA-512, of blocks of B BYTES: k longer than B becomes"
                + " h(k); zeros up to B; h(k ^ 5c .. | h(k ^ 36 .. | x)) (in sixteens).");
        for (int length : new int[] {0, 1, 63, 64, 65, 127, 128, 129, 300}) {
            byte[] key = Check.some(length, length);
            byte[] text = Check.some(2, 90);
            Check.bytes("HMAC-SHA-256", digest(13, key, text, 0), PlainSha.mac(1, key, text));
            Check.bytes("HMAC-SHA-512", digest(14, key, text, 0), PlainSha.mac(3, key, text));
        }
    }

    private static void masks() {
        Check.says("Terms", "MGF1-h(x, n): the first n BYTES of h(x | be(0, 4)) | h(x | be(1, 4)) | ..");
        for (int n : new int[] {0, 1, 31, 32, 33, 63, 64, 65, 200}) {
            byte[] text = Check.some(n, 77);
            Check.bytes("MGF1-SHA-256", digest(15, new byte[0], text, n), PlainSha.mask(1, text, n));
            Check.bytes("MGF1-SHA-512", digest(16, new byte[0], text, n), PlainSha.mask(3, text, n));
        }
    }

    /** The library goes by FIPS; the class goes by the words of the document, and these are not different there. */
    private static void wordingAndStandards() {
        Check.says("Terms", "^ exclusive or, ~ not. rotl, rotr, >>: of words of 32 or 64 bits. (In FIPS numbers the"
                + " wording here decides, if there were a difference.)");
        for (int kind = 1; kind <= 10; kind++) {
            for (int length : LENGTHS) {
                byte[] text = Check.some(kind + length, length);
                byte[] words = kind <= 6
                        ? PlainSha.hash(kind, text)
                        : Plain.sponge(new int[] {144, 136, 104, 72}[kind - 7], 6, text, Plain.hash(kind, text).length);
                Check.bytes("by the wording", digest(kind, text), words);
                Check.bytes("by FIPS", digest(kind, text), Plain.hash(kind, text));
            }
        }
    }

    /** A signature of a hash is the one that how -1 makes of these bytes, the hash being that of digest. */
    private static void hashesByHow() {
        Check.says("Terms", "h by how: SHA-256, SHA-384, SHA-512, SHA-224, SHA-512/224, SHA-512/256, SHA3-224,"
                + " SHA3-256, SHA3-384, SHA3-512, SHAKE128 of 32, SHAKE256 of 64 BYTES");
        byte[] message = Check.some(8, 50);
        for (int how = 1; how <= 12; how++) {
            LatticeSuite x = new LatticeSuite();
            x.resize(Check.RANDOM, 32);
            x.dsaKeys(0);
            Check.put(x, Check.CONTEXT, Plain.of(1, 2));
            Check.put(x, Check.MESSAGE, message);
            x.dsaSign(0, how);
            x.copy(Check.PACKET, Check.SPARE);
            byte[] hash = how > 10
                    ? Plain.sponge(how == 11 ? 168 : 136, 31, message, how == 11 ? 32 : 64)
                    : how > 6 ? Plain.hash(how, message) : PlainSha.hash(how, message);
            Check.put(x, Check.MESSAGE, Check.join(Plain.of(1, 2, 1, 2, 6, 9, 96, 134, 72, 1, 101, 3, 4, 2, how), hash));
            x.dsaSign(0, -1);
            Check.holds("how " + how, x.same(Check.PACKET, Check.SPARE));
        }
    }
}
