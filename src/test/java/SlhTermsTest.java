import java.nio.ByteBuffer;
import java.util.Arrays;

/**
 * The terms of the signatures from hash trees, one by one: each part of a key or signature by itself, what lies above
 * it by the nodes that the class itself tells, and VERIFY of any bytes from end to end.
 */
public final class SlhTermsTest {
    private static final int FULL_TEXT = 60;

    private final int set;
    private final int n;
    private final int h;
    private final int d;
    private final int a;
    private final int k;
    private final int p;
    private final int ends;
    private final boolean shake;
    private byte[] q;
    private byte[] o;

    private SlhTermsTest(int set, int n, int h, int d, int a, int k) {
        this.set = set;
        this.n = n;
        this.h = h;
        this.d = d;
        this.a = a;
        this.k = k;
        p = h / d;
        ends = 2 * n + 3;
        shake = set < 6;
    }

    public static void main(String[] args) {
        int[][] six = {
            {16, 63, 7, 12, 14}, {16, 66, 22, 6, 33}, {24, 63, 7, 14, 17}, {24, 66, 22, 8, 33}, {32, 64, 8, 14, 22},
            {32, 68, 17, 9, 35},
        };
        for (int set = 0; set < 12; set++) {
            int[] it = six[set % 6];
            SlhTermsTest test = new SlhTermsTest(set, it[0], it[1], it[2], it[3], it[4]);
            test.sizes();
            test.leaves();
            test.nodes();
            test.keysAndSignature();
            test.verifies();
        }
        Check.end("SlhTermsTest");
    }

    private void sizes() {
        Check.says("Terms", "SLH, sets 0 .. 11: of the six (n, h, d, a, k): (16, 63, 7, 12, 14), (16, 66, 22, 6,"
                + " 33), (24, 63, 7, 14, 17), (24, 66, 22, 8, 33), (32, 64, 8, 14, 22), (32, 68, 17, 9, 35) set %"
                + " 6, by SHAKE (0 .. 5) or SHA-2 (6 .. 11). p = h / d, L = 2 n + 3; u = (k a + 7) / 8, v = (h - p"
                + " + 7) / 8, y = (p + 7) / 8 (cut), m = u + v + y.");
        LatticeSuite x = new LatticeSuite();
        x.resize(Check.PUBLIC, 2 * n);
        x.resize(Check.PACKET, size());
        x.slhVerify(set, 0);
        Check.due("a PACKET of this length comes so far", x.length(Check.SHARED), n);
        x.resize(Check.SECRET, 4 * n);
        Check.due("the last layer, the last leaf", x.slhNode(set, d - 1, 0, 0, (1 << p) - 1), 0);
        Check.fails("the next layer", Check.ARGUMENT, () -> x.slhNode(set, d, 0, 0, 0));
        Check.fails("the next leaf", Check.ARGUMENT, () -> x.slhNode(set, 0, 0, 0, 1 << p));
        Check.fails("the next height", Check.ARGUMENT, () -> x.slhNode(set, 0, 0, p + 1, 0));
    }

    private int size() {
        return n * (1 + k * (1 + a) + h + d * ends);
    }

    /** Layer, tree and type, and the words X, Y, Z. */
    private byte[] address(int layer, long tree, int type, int... words) {
        ByteBuffer it = ByteBuffer.allocate(shake ? 32 : 22);
        if (shake) {
            it.putInt(layer).putInt(0).putLong(tree).putInt(type);
        } else {
            it.put((byte) layer).putLong(tree).put((byte) type);
        }
        return it.putInt(words[0]).putInt(words[1]).putInt(words[2]).array();
    }

    private byte[] f(byte[] address, byte[]... x) {
        byte[] text = Check.join(x);
        if (shake) {
            return Plain.shake256(Check.join(q, address, text), n);
        }
        boolean large = n > 16 && text.length > n;
        byte[] padded = Check.join(Arrays.copyOf(q, large ? 128 : 64), address, text);
        return Plain.part(Plain.sha(large ? "SHA-512" : "SHA-256", padded), 0, n);
    }

    private byte[] chain(int layer, long tree, int pair, int number, byte[] x, int from, int upTo) {
        byte[] it = x;
        for (int j = from; j < upTo; j++) {
            it = f(address(layer, tree, 0, pair, number, j), it);
        }
        return it;
    }

    private byte[] end(int layer, long tree, int pair, int number, int steps) {
        return chain(layer, tree, pair, number, f(address(layer, tree, 5, pair, number, 0), o), 0, steps);
    }

    private LatticeSuite withSecret(byte[] secret) {
        LatticeSuite x = new LatticeSuite();
        Check.put(x, Check.SECRET, secret);
        o = Plain.part(secret, 0, n);
        q = Plain.part(secret, 2 * n, n);
        return x;
    }

    private byte[] node(LatticeSuite x, int layer, int tree, int z, int i) {
        x.slhNode(set, layer, tree, z, i);
        return Check.get(x, Check.SHARED);
    }

    private void leaves() {
        LatticeSuite x = withSecret(Check.some(80 + set, 4 * n));
        int[][] places = {{0, 0, 0}, {d - 1, 1, (1 << p) - 1}, {2, 0x01020304, 1}, {1, Integer.MAX_VALUE, 2}};
        Check.says("Terms", "An ADDRESS: layer (4 BYTES), tree (12), type (4), and three words of 4 BYTES, X, Y, Z:"
                + " X the key pair (types 0, 1, 3 to 6), Y the chain (0, 5) or the height (2, 3, 6), Z the step (0)"
                + " or the index (2, 3, 6); what is not named is 0. Its types: 0 a step of a chain, 1 an end of"
                + " chains, 2 a tree, 3 a tree of the forest, 4 the forest's roots, 5, 6 secrets of chains and of"
                + " the forest. In SHA-2 it is cut to 22: the last byte of layer, 8 of tree, 1 of type, and the"
                + " words.");
        for (int[] place : places) {
            Check.bytes("LEAF " + Arrays.toString(place), node(x, place[0], place[1], 0, place[2]), leaf(place));
        }
        Check.says("Terms", "CHAIN(x, i, s): for j = i .. i + s - 1: x = F(A with Z = j, x).");
        Check.bytes("a leaf", node(x, 1, 7, 0, 1), leaf(1, 7, 1));
        Check.says("Terms", "LEAF of key pair i in a tree: the ends of L chains, chain j of PRF(type 5, X = i, Y ="
                + " j) by 15 steps (type 0, X = i, Y = j), F(type 1, X = i, all ends).");
        Check.bytes("a leaf", node(x, 0, 9, 0, 3), leaf(0, 9, 3));
    }

    /** Of a layer, a tree and a key pair. */
    private byte[] leaf(int... place) {
        byte[][] all = new byte[ends][];
        for (int j = 0; j < ends; j++) {
            all[j] = end(place[0], place[1], place[2], j, 15);
        }
        return f(address(place[0], place[1], 1, place[2], 0, 0), all);
    }

    private void nodes() {
        Check.says("Terms", "NODE(z, i): z 0: LEAF i; else F(type 2, Y = z, Z = i, NODE(z - 1, 2 i) | NODE(z - 1, 2"
                + " i + 1)).");
        LatticeSuite x = withSecret(Check.some(80 + set, 4 * n));
        int[][] places = {{0, 5, 1, 0}, {d - 1, 0, 2, 1}, {1, 77, p - 1, 1}, {d - 2, 3, p, 0}};
        for (int[] it : places) {
            byte[] left = node(x, it[0], it[1], it[2] - 1, 2 * it[3]);
            byte[] right = node(x, it[0], it[1], it[2] - 1, 2 * it[3] + 1);
            Check.bytes("NODE " + Arrays.toString(it), node(x, it[0], it[1], it[2], it[3]),
                    f(address(it[0], it[1], 2, 0, it[2], it[3]), left, right));
        }
    }

    private byte[] hashOfMessage(byte[] r, byte[] root, byte[] x) {
        int m = (k * a + 7) / 8 + (h - p + 7) / 8 + (p + 7) / 8;
        if (shake) {
            return Plain.shake256(Check.join(r, q, root, x), m);
        }
        int how = n == 16 ? 1 : 3;
        return PlainSha.mask(how, Check.join(r, q, PlainSha.hash(how, Check.join(r, q, root, x))), m);
    }

    private static long number(byte[] from, int at, int count) {
        long v = 0;
        for (int i = 0; i < count; i++) {
            v = v << 8 | from[at + i] & 255;
        }
        return v;
    }

    private long tree(byte[] g) {
        long t = number(g, (k * a + 7) / 8, (h - p + 7) / 8);
        return h - p == 64 ? t : t & (1L << h - p) - 1;
    }

    private int pair(byte[] g) {
        return (int) number(g, (k * a + 7) / 8 + (h - p + 7) / 8, (p + 7) / 8) & (1 << p) - 1;
    }

    /** The leaf that tree j of the forest is opened at, counted through all trees. */
    private int forestLeaf(byte[] g, int j) {
        int b = 0;
        for (int bit = j * a; bit < j * a + a; bit++) {
            b = 2 * b + ((g[bit / 8] & 255) >> 7 - bit % 8) % 2;
        }
        return j * (1 << a) + b;
    }

    private byte[] forestNode(long tree, int pair, int z, int j) {
        if (z == 0) {
            return f(address(0, tree, 3, pair, 0, j), f(address(0, tree, 6, pair, 0, j), o));
        }
        return f(address(0, tree, 3, pair, z, j), forestNode(tree, pair, z - 1, 2 * j),
                forestNode(tree, pair, z - 1, 2 * j + 1));
    }

    private int[] digits(byte[] x) {
        int[] answer = new int[ends];
        int sum = 0;
        for (int i = 0; i < 2 * n; i++) {
            answer[i] = Character.digit(Check.hex(x).charAt(i), 16);
            sum += 15 - answer[i];
        }
        String last = Check.hex(Plain.be(16 * sum, 2));
        for (int i = 0; i < 3; i++) {
            answer[2 * n + i] = Character.digit(last.charAt(i), 16);
        }
        return answer;
    }

    private static byte[] bytes(LatticeSuite x, int at, int count) {
        byte[] all = new byte[(count + 7) / 8 * 8];
        for (int i = 0; i < count; i += 8) {
            System.arraycopy(Plain.be(x.word(Check.PACKET, at + i), 8), 0, all, i, 8);
        }
        return Arrays.copyOf(all, count);
    }

    private void keysAndSignature() {
        byte[] random = Check.some(90 + set, 3 * n);
        LatticeSuite x = new LatticeSuite();
        Check.put(x, Check.RANDOM, random);
        Check.due("slhKeys", x.slhKeys(set), 4 * n);
        o = Plain.part(random, 0, n);
        q = Plain.part(random, 2 * n, n);
        byte[] root = Plain.part(Check.get(x, Check.SECRET), 3 * n, n);
        Check.says("Terms", "KEYS of O | prf | Q (n BYTES each): root = NODE(p, 0), layer d - 1, tree 0; P = Q |"
                + " root; D = O | prf | Q | root.");
        Check.due("root is that NODE", x.slhNode(set, d - 1, 0, p, 0), 1);
        Check.slotIs("D", x, Check.SECRET, Check.join(random, root));
        Check.slotIs("P", x, Check.PUBLIC, Check.join(q, root));
        byte[] message = Check.some(91 + set, FULL_TEXT);
        Check.put(x, Check.MESSAGE, message);
        byte[] r = Check.some(92 + set, n);
        Check.put(x, Check.RANDOM, r);
        Check.due("slhSign", x.slhSign(set, -1), size());
        byte[] first = bytes(x, 0, n);
        Check.says("Terms", "N(r, x) = SHAKE256(prf | r | x, n), D(R, x) = SHAKE256(R | Q | root | x, m).");
        Check.says("Terms", "N(r, x) = HMAC-g(prf, r | x), cut to n, D(R, x) = MGF1-g(R | Q | g(R | Q | root | x),"
                + " m), g SHA-256 for n 16, SHA-512 for others. prf: the third seed.");
        byte[] prf = Plain.part(random, n, n);
        Check.bytes("R", first, shake
                ? Plain.shake256(Check.join(prf, r, message), n)
                : Plain.part(PlainSha.mac(n == 16 ? 1 : 3, prf, Check.join(r, message)), 0, n));
        byte[] g = hashOfMessage(first, root, message);
        forestOf(x, g);
        lastTreeOf(x, g);
        Check.due("slhVerify", x.slhVerify(set, -1), true);
        Check.slotIs("the last x is root", x, Check.SHARED, root);
    }

    /** Two trees of the forest in a signature, the first and the last. */
    private void forestOf(LatticeSuite x, byte[] g) {
        Check.says("Terms", "FOREST, in tree t, key pair i: FNODE(z, j): z 0: F(type 3, X = i, Z = j, PRF(type 6, X"
                + " = i, Z = j)); else F(type 3, X = i, Y = z, Z = j, FNODE(z - 1, 2 j) | FNODE(z - 1, 2 j + 1))."
                + " FSIGN(x): x's first k a bits as k numbers b j of a bits, the highest bit of each byte first;"
                + " for each j: PRF(type 6, X = i, Z = j 2^a + b j), then FNODE(c, (j 2^a + b j) / 2^c ^ 1), c 0 .."
                + " a - 1.");
        for (int j = 0; j < k; j += k - 1) {
            int leaf = forestLeaf(g, j);
            byte[][] parts = new byte[1 + a][];
            parts[0] = f(address(0, tree(g), 6, pair(g), 0, leaf), o);
            for (int c = 0; c < a; c++) {
                parts[1 + c] = forestNode(tree(g), pair(g), c, leaf / (1 << c) ^ 1);
            }
            byte[] want = Check.join(parts);
            Check.bytes("set " + set + ", tree " + j, bytes(x, n + j * (1 + a) * n, want.length), want);
        }
    }

    /** The tree of the last layer, and what it signs: the top of the one below, as slhNode has it. */
    private void lastTreeOf(LatticeSuite x, byte[] g) {
        Check.says("Terms", "SIGN(D, x, r): R = N(r, x); g = D(R, x): f = g[0, u]; t = the next v BYTES, the"
                + " highest first, modulo 2^(h - p); i = the next y modulo 2^p. R | FSIGN(f); x = FROOT; for layer"
                + " 0 .. d - 1: XSIGN(x, i) in tree t; x = XROOT of that; i = t modulo 2^p, t = t / 2^p.");
        // x[i, n] is n of them from i on: the bits of t that are left behind p (d - 2) others.
        int below = (int) (tree(g) >>> p * (d - 2));
        byte[] signed = node(x, d - 2, below, p, 0);
        int at = size() - n * (ends + p);
        Check.says("Terms", "DIGITS of n BYTES: 2 n numbers 0 .. 15, the higher half of each byte first, then the"
                + " sum of all 15 - digit, times 16, as be of 2 BYTES: its first three halves.");
        int[] digits = digits(signed);
        for (int j : new int[] {0, 1, 2 * n - 1, 2 * n, 2 * n + 1, 2 * n + 2}) {
            Check.bytes("chain " + j, bytes(x, at + j * n, n), end(d - 1, 0, below, j, digits[j]));
        }
        Check.says("Terms", "XSIGN(x, i): chain j by DIGIT j steps, j 0 .. L - 1; then NODE(j, (i / 2^j) ^ 1), j 0"
                + " .. p - 1.");
        for (int j = 2; j < ends; j += 9) {
            Check.bytes("chain " + j, bytes(x, at + j * n, n), end(d - 1, 0, below, j, digits[j]));
        }
        for (int j = 0; j < p; j++) {
            byte[] want = node(x, d - 1, 0, j, below / (1 << j) ^ 1);
            Check.bytes("neighbour " + j, bytes(x, at + (ends + j) * n, n), want);
        }
    }

    /** Any bytes as PACKET: the last x, from the forest up through all layers. */
    private void verifies() {
        LatticeSuite x = new LatticeSuite();
        byte[] packet = Check.putMany(x, Check.PACKET, 95 + set, size());
        byte[] key = Check.some(96 + set, 2 * n);
        byte[] message = Check.some(97 + set, FULL_TEXT);
        Check.put(x, Check.PUBLIC, key);
        Check.put(x, Check.MESSAGE, message);
        Check.due("slhVerify", x.slhVerify(set, -1), false);
        q = Plain.part(key, 0, n);
        byte[] g = hashOfMessage(Plain.part(packet, 0, n), Plain.part(key, n, n), message);
        byte[] it = forestRoot(packet, g);
        int i = pair(g);
        long t = tree(g);
        int at = n + k * (1 + a) * n;
        for (int layer = 0; layer < d; layer++) {
            it = treeRoot(layer, t, i, Plain.part(packet, at, n * (ends + p)), it);
            at += n * (ends + p);
            i = (int) (t & (1 << p) - 1);
            t >>>= p;
        }
        Check.says("Terms", "x[i, n]: n of them from i on.");
        Check.slotIs("f = g[0, u]", x, Check.SHARED, it);
        Check.says("Terms", "XROOT(i, s, x): each chain from DIGIT j on to 15, F(type 1, X = i, ends); then with"
                + " each of the p: F(type 2, Y = j + 1, Z = i / 2^(j + 1), the two, this one left if i / 2^j is"
                + " even).");
        Check.slotIs("XROOT", x, Check.SHARED, it);
        Check.says("Terms", "FROOT(x, s): from these up as XROOT does; F(type 4, X = i, all k roots). The layer of"
                + " the forest is 0.");
        Check.slotIs("FROOT", x, Check.SHARED, it);
        Check.says("Terms", "Q, O: the seeds of PUBLIC and SECRET; A an ADDRESS. SHAKE: F(A, x) = SHAKE256(Q | A |"
                + " x, n); PRF(A) = F(A, O);");
        Check.slotIs("F", x, Check.SHARED, it);
        Check.says("Terms", "SHA-2: F(A, x) = SHA-256(Q | zeros up to 64 BYTES | A | x), cut to n; for n 24, 32 if"
                + " x has more than n BYTES and A is not of type 5 or 6: SHA-512(Q | zeros up to 128 | A | x), cut"
                + " to n; PRF(A) = F(A, O);");
        Check.slotIs("F", x, Check.SHARED, it);
        Check.says("Terms", "VERIFY(P, x, s): false if s has not n (1 + k (1 + a) + h + d L) BYTES; else by FROOT"
                + " and XROOT of its parts the last x is root.");
        x.resize(Check.PACKET, size() - 1);
        x.resize(Check.SHARED, 3);
        Check.due("a byte less", x.slhVerify(set, -1), false);
        Check.due("SHARED stays", x.length(Check.SHARED), 3);
    }

    private byte[] forestRoot(byte[] packet, byte[] g) {
        byte[][] roots = new byte[k][];
        for (int j = 0; j < k; j++) {
            int leaf = forestLeaf(g, j);
            int at = n + j * (1 + a) * n;
            byte[] it = f(address(0, tree(g), 3, pair(g), 0, leaf), Plain.part(packet, at, n));
            for (int c = 0; c < a; c++) {
                byte[] other = Plain.part(packet, at + (1 + c) * n, n);
                boolean left = leaf / (1 << c) % 2 == 0;
                byte[] address = address(0, tree(g), 3, pair(g), c + 1, leaf / (2 << c));
                it = left ? f(address, it, other) : f(address, other, it);
            }
            roots[j] = it;
        }
        return f(address(0, tree(g), 4, pair(g), 0, 0), roots);
    }

    private byte[] treeRoot(int layer, long tree, int i, byte[] s, byte[] x) {
        int[] digits = digits(x);
        byte[][] all = new byte[ends][];
        for (int j = 0; j < ends; j++) {
            all[j] = chain(layer, tree, i, j, Plain.part(s, j * n, n), digits[j], 15);
        }
        byte[] it = f(address(layer, tree, 1, i, 0, 0), all);
        for (int j = 0; j < p; j++) {
            byte[] other = Plain.part(s, (ends + j) * n, n);
            byte[] address = address(layer, tree, 2, 0, j + 1, i / (2 << j));
            it = i / (1 << j) % 2 == 0 ? f(address, it, other) : f(address, other, it);
        }
        return it;
    }
}
