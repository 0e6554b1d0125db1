import java.util.Arrays;

/** The signatures from hash trees, as near to the document's words as can be. */
final class PlainSlh {
    private static final int[][] SETS = {
        {16, 63, 7, 12, 14}, {16, 66, 22, 6, 33}, {24, 63, 7, 14, 17},
        {24, 66, 22, 8, 33}, {32, 64, 8, 14, 22}, {32, 68, 17, 9, 35},
    };

    final int n;
    final int h;
    final int d;
    final int a;
    final int k;
    final int p;
    final int ends;
    private final boolean shake;
    private byte[] seed;
    private byte[] secret;

    PlainSlh(int set) {
        int[] numbers = SETS[set % 6];
        n = numbers[0];
        h = numbers[1];
        d = numbers[2];
        a = numbers[3];
        k = numbers[4];
        p = h / d;
        ends = 2 * n + 3;
        shake = set < 6;
    }

    int packetSize() {
        return n * (1 + k * (1 + a) + h + d * ends);
    }

    /** The seeds Q and O that all below goes by. */
    void take(byte[] publicSeed, byte[] secretSeed) {
        seed = publicSeed;
        secret = secretSeed;
    }

    /** F(A, x), A given by its parts. */
    private byte[] hash(int layer, long tree, int type, int[] words, byte[] x) {
        byte[] three = Check.join(Plain.be(words[0], 4), Plain.be(words[1], 4), Plain.be(words[2], 4));
        if (shake) {
            byte[] address = Check.join(Plain.be(layer, 4), Plain.be(tree, 12), Plain.be(type, 4), three);
            return Plain.shake256(Check.join(seed, address, x), n);
        }
        byte[] address = Check.join(Plain.be(layer, 1), Plain.be(tree, 8), Plain.be(type, 1), three);
        boolean wide = n > 16 && x.length > n && type != 5 && type != 6;
        byte[] text = Check.join(Arrays.copyOf(seed, wide ? 128 : 64), address, x);
        return Plain.part(Plain.sha(wide ? "SHA-512" : "SHA-256", text), 0, n);
    }

    private static int[] words(int x, int y, int z) {
        return new int[] {x, y, z};
    }

    private byte[] chain(int layer, long tree, int pair, int number, byte[] x, int i, int s) {
        byte[] it = x;
        for (int j = i; j < i + s; j++) {
            it = hash(layer, tree, 0, words(pair, number, j), it);
        }
        return it;
    }

    private byte[] chainSecret(int layer, long tree, int pair, int number) {
        return hash(layer, tree, 5, words(pair, number, 0), secret);
    }

    int[] digits(byte[] x) {
        int[] answer = new int[ends];
        int sum = 0;
        for (int i = 0; i < n; i++) {
            answer[2 * i] = (x[i] & 255) / 16;
            answer[2 * i + 1] = (x[i] & 255) % 16;
            sum += 30 - answer[2 * i] - answer[2 * i + 1];
        }
        byte[] last = Plain.be(16 * sum, 2);
        answer[2 * n] = (last[0] & 255) / 16;
        answer[2 * n + 1] = (last[0] & 255) % 16;
        answer[2 * n + 2] = (last[1] & 255) / 16;
        return answer;
    }

    byte[] node(int layer, long tree, int z, int i) {
        if (z > 0) {
            byte[] two = Check.join(node(layer, tree, z - 1, 2 * i), node(layer, tree, z - 1, 2 * i + 1));
            return hash(layer, tree, 2, words(0, z, i), two);
        }
        byte[][] all = new byte[ends][];
        for (int j = 0; j < ends; j++) {
            all[j] = chain(layer, tree, i, j, chainSecret(layer, tree, i, j), 0, 15);
        }
        return hash(layer, tree, 1, words(i, 0, 0), Check.join(all));
    }

    private byte[] treeSign(byte[] x, int layer, long tree, int i) {
        byte[][] parts = new byte[ends + p][];
        int[] digits = digits(x);
        for (int j = 0; j < ends; j++) {
            parts[j] = chain(layer, tree, i, j, chainSecret(layer, tree, i, j), 0, digits[j]);
        }
        for (int j = 0; j < p; j++) {
            parts[ends + j] = node(layer, tree, j, i >> j ^ 1);
        }
        return Check.join(parts);
    }

    private byte[] treeRoot(int layer, long tree, int i, byte[] s, byte[] x) {
        byte[][] all = new byte[ends][];
        int[] digits = digits(x);
        for (int j = 0; j < ends; j++) {
            all[j] = chain(layer, tree, i, j, Plain.part(s, j * n, n), digits[j], 15 - digits[j]);
        }
        byte[] it = hash(layer, tree, 1, words(i, 0, 0), Check.join(all));
        for (int j = 0; j < p; j++) {
            byte[] other = Plain.part(s, (ends + j) * n, n);
            byte[] two = (i >> j) % 2 == 0 ? Check.join(it, other) : Check.join(other, it);
            it = hash(layer, tree, 2, words(0, j + 1, i >> j + 1), two);
        }
        return it;
    }

    private byte[] forestNode(long tree, int pair, int z, int j) {
        if (z > 0) {
            byte[] two = Check.join(forestNode(tree, pair, z - 1, 2 * j), forestNode(tree, pair, z - 1, 2 * j + 1));
            return hash(0, tree, 3, words(pair, z, j), two);
        }
        return hash(0, tree, 3, words(pair, 0, j), hash(0, tree, 6, words(pair, 0, j), secret));
    }

    private int number(byte[] x, int j) {
        int b = 0;
        for (int bit = j * a; bit < (j + 1) * a; bit++) {
            b = 2 * b + (x[bit / 8] >> 7 - bit % 8 & 1);
        }
        return (j << a) + b;
    }

    private byte[] forestSign(byte[] x, long tree, int pair) {
        byte[][] parts = new byte[k * (1 + a)][];
        int at = 0;
        for (int j = 0; j < k; j++) {
            int leaf = number(x, j);
            parts[at++] = hash(0, tree, 6, words(pair, 0, leaf), secret);
            for (int z = 0; z < a; z++) {
                parts[at++] = forestNode(tree, pair, z, leaf >> z ^ 1);
            }
        }
        return Check.join(parts);
    }

    private byte[] forestRoot(byte[] x, long tree, int pair, byte[] s) {
        byte[][] roots = new byte[k][];
        for (int j = 0; j < k; j++) {
            int leaf = number(x, j);
            int at = j * (1 + a) * n;
            byte[] it = hash(0, tree, 3, words(pair, 0, leaf), Plain.part(s, at, n));
            for (int z = 0; z < a; z++) {
                byte[] other = Plain.part(s, at + (1 + z) * n, n);
                byte[] two = (leaf >> z) % 2 == 0 ? Check.join(it, other) : Check.join(other, it);
                it = hash(0, tree, 3, words(pair, z + 1, leaf >> z + 1), two);
            }
            roots[j] = it;
        }
        return hash(0, tree, 4, words(pair, 0, 0), Check.join(roots));
    }

    private byte[] random(byte[] prf, byte[] r, byte[] x) {
        if (shake) {
            return Plain.shake256(Check.join(prf, r, x), n);
        }
        return Plain.part(Plain.mac(wideName(), prf, Check.join(r, x)), 0, n);
    }

    private String wideName() {
        return n == 16 ? "SHA-256" : "SHA-512";
    }

    /** What the bytes that choose the places give: f, and t and i as 8 and 4 bytes. */
    byte[][] places(byte[] random, byte[] root, byte[] x) {
        int u = (k * a + 7) / 8;
        int v = (h - p + 7) / 8;
        int y = (p + 7) / 8;
        byte[] text = Check.join(random, seed, root, x);
        byte[] g = shake
                ? Plain.shake256(text, u + v + y)
                : Plain.mask(wideName(), Check.join(random, seed, Plain.sha(wideName(), text)), u + v + y);
        long t = 0;
        for (int i = 0; i < v; i++) {
            t = t << 8 | g[u + i] & 255;
        }
        int i = 0;
        for (int j = 0; j < y; j++) {
            i = i << 8 | g[u + v + j] & 255;
        }
        long mask = h - p == 64 ? -1L : (1L << h - p) - 1;
        return new byte[][] {Plain.part(g, 0, u), Plain.be(t & mask, 8), Plain.be(i % (1 << p), 4)};
    }

    static long number(byte[] x) {
        long answer = 0;
        for (byte b : x) {
            answer = answer << 8 | b & 255;
        }
        return answer;
    }

    byte[][] keys(byte[] random) {
        take(Plain.part(random, 2 * n, n), Plain.part(random, 0, n));
        byte[] root = node(d - 1, 0, p, 0);
        return new byte[][] {Check.join(seed, root), Check.join(random, root)};
    }

    byte[] sign(byte[] key, byte[] x, byte[] r) {
        take(Plain.part(key, 2 * n, n), Plain.part(key, 0, n));
        byte[] random = random(Plain.part(key, n, n), r, x);
        byte[][] places = places(random, Plain.part(key, 3 * n, n), x);
        long t = number(places[1]);
        int i = (int) number(places[2]);
        byte[] forest = forestSign(places[0], t, i);
        byte[] s = Check.join(random, forest);
        byte[] it = forestRoot(places[0], t, i, forest);
        for (int layer = 0; layer < d; layer++) {
            byte[] part = treeSign(it, layer, t, i);
            s = Check.join(s, part);
            it = treeRoot(layer, t, i, part, it);
            i = (int) (t & (1 << p) - 1);
            t >>>= p;
        }
        return s;
    }

    /** The last x; nothing, where s has another length. */
    byte[] verify(byte[] key, byte[] x, byte[] s) {
        if (s.length != packetSize()) {
            return new byte[0];
        }
        take(Plain.part(key, 0, n), new byte[n]);
        byte[][] places = places(Plain.part(s, 0, n), Plain.part(key, n, n), x);
        long t = number(places[1]);
        int i = (int) number(places[2]);
        int at = n * (1 + k * (1 + a));
        byte[] it = forestRoot(places[0], t, i, Plain.part(s, n, at - n));
        for (int layer = 0; layer < d; layer++) {
            it = treeRoot(layer, t, i, Plain.part(s, at, (ends + p) * n), it);
            at += (ends + p) * n;
            i = (int) (t & (1 << p) - 1);
            t >>>= p;
        }
        return it;
    }
}
