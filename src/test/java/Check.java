import java.util.Arrays;

/** What the tests have in common: counting what is not as due, and bytes in and out of an object. */
final class Check {
    static final int RANDOM = 0;
    static final int PUBLIC = 1;
    static final int SECRET = 2;
    static final int MESSAGE = 3;
    static final int CONTEXT = 4;
    static final int PACKET = 5;
    static final int SHARED = 6;
    static final int SPARE = 7;

    static final Class<?> ARGUMENT = IllegalArgumentException.class;
    static final Class<?> STATE = IllegalStateException.class;
    static final Class<?> INDEX = IndexOutOfBoundsException.class;
    static final Class<?> UNSUPPORTED = UnsupportedOperationException.class;
    static final Class<?> ARITHMETIC = ArithmeticException.class;

    private static int checks;
    private static int wrong;

    interface Call {
        void run();
    }

    interface Making {
        void make(LatticeSuite x);
    }

    private Check() {
    }

    static void due(String what, Object got, Object want) {
        checks++;
        if (!got.equals(want)) {
            wrong++;
            System.out.println(what + " answered " + got + ", due is " + want);
        }
    }

    static void due(String what, long got, long want) {
        due(what, (Object) got, (Object) want);
    }

    static void holds(String what, boolean got) {
        due(what, got, true);
    }

    static void bytes(String what, byte[] got, byte[] want) {
        due(what, hex(got), hex(want));
    }

    /** That the call throws just this exception. */
    static void fails(String what, Class<?> want, Call call) {
        Object got = "nothing";
        try {
            call.run();
        } catch (RuntimeException e) {
            got = e.getClass();
        }
        due(what + " throws", got, want);
    }

    /** That a call throws this exception and leaves an object as another one that had the same calls. */
    static void failsAndChangesNothing(String what, Class<?> want, Making making, Making call) {
        LatticeSuite x = new LatticeSuite();
        LatticeSuite y = new LatticeSuite();
        making.make(x);
        making.make(y);
        fails(what, want, () -> call.make(x));
        due(what + " leaves all as it was", picture(x), picture(y));
    }

    static void end(String name) {
        System.out.println(name + ": " + checks + " checks, " + wrong + " wrong");
        if (wrong != 0) {
            System.exit(1);
        }
    }

    /** Some bytes that differ with the seed. */
    static byte[] some(int seed, int n) {
        byte[] it = new byte[n];
        for (int i = 0; i < n; i++) {
            it[i] = (byte) (37 * seed + 167 * i + i / 256 + (i * i >> 3));
        }
        return it;
    }

    static void put(LatticeSuite x, int slot, byte[] it) {
        byte[] whole = Arrays.copyOf(it, (it.length + 19) / 20 * 20);
        for (int i = 0; i < whole.length; i += 20) {
            x.feed(at(whole, i), at(whole, i + 4), at(whole, i + 8), at(whole, i + 12), at(whole, i + 16));
        }
        x.end(slot, it.length);
    }

    private static int at(byte[] it, int i) {
        return it[i] << 24 | (it[i + 1] & 255) << 16 | (it[i + 2] & 255) << 8 | it[i + 3] & 255;
    }

    static byte[] get(LatticeSuite x, int slot) {
        byte[] it = new byte[x.length(slot)];
        for (int i = 0; i < it.length; i += 8) {
            long w = x.word(slot, i);
            for (int j = 0; j < 8 && i + j < it.length; j++) {
                it[i + j] = (byte) (w >>> 56 - 8 * j);
            }
        }
        return it;
    }

    /** SHA-256 of a slot: SHARED holds it then, and MESSAGE what the slot holds. */
    static String hashOf(LatticeSuite x, int slot) {
        x.copy(slot, MESSAGE);
        x.digest(1, 0);
        return hex(get(x, SHARED));
    }

    /** All that an object holds; it is of no use afterwards. */
    private static String picture(LatticeSuite x) {
        StringBuilder it = new StringBuilder();
        for (int slot = 0; slot < 8; slot++) {
            it.append(x.length(slot)).append(' ');
        }
        it.append(x.feed(0, 0, 0, 0, 0)).append(' ');
        it.append(hex(get(x, RANDOM))).append(' ');
        it.append(hex(get(x, SHARED))).append(' ');
        for (int slot : new int[] {MESSAGE, PUBLIC, SECRET, CONTEXT, PACKET, SPARE}) {
            it.append(hashOf(x, slot)).append(' ');
        }
        return it.toString();
    }

    static String hex(byte[] it) {
        StringBuilder text = new StringBuilder();
        for (byte b : it) {
            text.append(String.format("%02x", b));
        }
        return text.toString();
    }

    static byte[] join(byte[]... parts) {
        int n = 0;
        for (byte[] part : parts) {
            n += part.length;
        }
        byte[] it = new byte[n];
        int at = 0;
        for (byte[] part : parts) {
            System.arraycopy(part, 0, it, at, part.length);
            at += part.length;
        }
        return it;
    }
}
