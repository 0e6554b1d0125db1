import java.io.IOException;
import java.nio.file.Files;
import java.nio.file.Path;
import java.util.ArrayList;
import java.util.Arrays;
import java.util.List;

/** What the tests have in common: counting what is not as due, and bytes in and out of an object. */
final class Check {
    static final int RANDOM = 0;
    static final int PUBLIC = 1;
    static final int SECRET = 2;
    static final int MESSAGE = 3;
    static final int CONTEXT = 4;
    static final int PACKET = 5;
    static final int SHARED = 6;
    static final int SPARE = 7;

    static final int FULL = 65536;

    static final Class<?> ARGUMENT = IllegalArgumentException.class;
    static final Class<?> STATE = IllegalStateException.class;
    static final Class<?> INDEX = IndexOutOfBoundsException.class;
    static final Class<?> UNSUPPORTED = UnsupportedOperationException.class;
    static final Class<?> ARITHMETIC = ArithmeticException.class;

    private static final Path DOCUMENT = Path.of("../shared/DOC.md");
    /** A slot of more bytes is looked at here and there, as a run has but 512 calls. */
    private static final int MOST_READ = 512;

    private static int checks;
    private static int wrong;
    private static String words = "";
    private static List<String> document;

    interface Call {
        void run();
    }

    interface Making {
        void make(LatticeSuite x);
    }

    private Check() {
    }

    /** The checks that follow are for these words, which stand below that heading of the document. */
    static void says(String heading, String quoted) {
        words = heading + ", '" + quoted + "': ";
        holds("the document says so", !hasDocument() || section(heading).contains(quoted));
    }

    /** Where the document is not at hand, what the class does can be tested all the same. */
    static boolean hasDocument() {
        return Files.isReadable(DOCUMENT);
    }

    static String section(String heading) {
        try {
            if (document == null) {
                document = Files.readAllLines(DOCUMENT);
            }
        } catch (IOException e) {
            document = new ArrayList<>();
        }
        StringBuilder text = new StringBuilder();
        boolean inside = false;
        for (String line : document) {
            if (line.startsWith("## ")) {
                inside = line.equals("## " + heading) || line.startsWith("## " + heading + ":");
            } else if (inside) {
                text.append(line).append('\n');
            }
        }
        return text.toString();
    }

    static void due(String what, Object got, Object want) {
        checks++;
        if (!got.equals(want)) {
            wrong++;
            System.out.println(words + what + " answered " + got + ", due is " + want);
        }
    }

    static void due(String what, long got, long want) {
        due(what, (Object) got, (Object) want);
    }

    static void holds(String what, boolean got) {
        due(what, got, true);
    }

    static void bytes(String what, byte[] got, byte[] want) {
        due(what, hex(got), hex(want));
    }

    /** That a slot holds these bytes; if they are many, MESSAGE and SHARED are other ones afterwards. */
    static void slotIs(String what, LatticeSuite x, int slot, byte[] want) {
        due(what + ", its length", x.length(slot), want.length);
        if (want.length <= MOST_READ) {
            bytes(what, get(x, slot), want);
        } else {
            due(what + ", its hash", hashOf(x, slot), hex(Plain.sha("SHA-256", want)));
        }
    }

    /** That the call throws just this exception. */
    static void fails(String what, Class<?> want, Call call) {
        Object got = "nothing";
        try {
            call.run();
        } catch (RuntimeException e) {
            got = e.getClass();
        }
        due(what + " throws", got, want);
    }

    /** That a call throws this exception and leaves an object as another one that had the same calls. */
    static void failsAndChangesNothing(String what, Class<?> want, Making making, Making call) {
        LatticeSuite x = new LatticeSuite();
        LatticeSuite y = new LatticeSuite();
        making.make(x);
        making.make(y);
        fails(what, want, () -> call.make(x));
        due(what + " leaves all as it was", picture(x), picture(y));
    }

    static void end(String name) {
        System.out.println(name + ": " + checks + " checks, " + wrong + " wrong");
        if (wrong != 0) {
            System.exit(1);
        }
    }

    /** Some bytes that differ with the seed. */
    static byte[] some(int seed, int n) {
        byte[] it = new byte[n];
        for (int i = 0; i < n; i++) {
            it[i] = (byte) (37 * seed + 167 * i + i / 256 + (i * i >> 3));
        }
        return it;
    }

    /** Other bytes in each slot and on the tape, none of them of a length that any call but digest takes. */
    static void fill(LatticeSuite x) {
        for (int slot = 0; slot < 8; slot++) {
            put(x, slot, some(20 + slot, 41 + 2 * slot));
        }
        x.feed(11, 12, 13, 14, 15);
        x.feed(21, 22, 23, 24, 25);
    }

    static void put(LatticeSuite x, int slot, byte[] it) {
        byte[] whole = Arrays.copyOf(it, (it.length + 19) / 20 * 20);
        for (int i = 0; i < whole.length; i += 20) {
            x.feed(at(whole, i), at(whole, i + 4), at(whole, i + 8), at(whole, i + 12), at(whole, i + 16));
        }
        x.end(slot, it.length);
    }

    /** Bytes without a pattern, as many as there may be, by few calls; MESSAGE and SHARED are other ones then. */
    static byte[] putMany(LatticeSuite x, int slot, int seed, int n) {
        byte[] from = some(seed, 20);
        put(x, MESSAGE, from);
        x.digest(11, n);
        x.copy(SHARED, slot);
        return Plain.shake128(from, n);
    }

    private static int at(byte[] it, int i) {
        return it[i] << 24 | (it[i + 1] & 255) << 16 | (it[i + 2] & 255) << 8 | it[i + 3] & 255;
    }

    static byte[] get(LatticeSuite x, int slot) {
        byte[] it = new byte[x.length(slot)];
        for (int i = 0; i < it.length; i += 8) {
            long w = x.word(slot, i);
            for (int j = 0; j < 8 && i + j < it.length; j++) {
                it[i + j] = (byte) (w >>> 56 - 8 * j);
            }
        }
        return it;
    }

    /** SHA-256 of a slot: SHARED holds it then, and MESSAGE what the slot holds. */
    static String hashOf(LatticeSuite x, int slot) {
        x.copy(slot, MESSAGE);
        x.digest(1, 0);
        return hex(get(x, SHARED));
    }

    /** All that an object holds; it is of no use afterwards. */
    static String picture(LatticeSuite x) {
        return String.join(" ", pictures(x));
    }

    /** What each slot holds and, behind them, what the tape does; the object is of no use afterwards. */
    static String[] pictures(LatticeSuite x) {
        String[] all = new String[9];
        for (int slot = 0; slot < 8; slot++) {
            all[slot] = x.length(slot) + ":";
        }
        int size = x.length(SHARED);
        int step = size <= MOST_READ ? 8 : size / 64;
        for (int i = 0; i < size; i += step) {
            all[SHARED] += x.word(SHARED, i) + ",";
        }
        for (int slot : new int[] {MESSAGE, RANDOM, PUBLIC, SECRET, CONTEXT, PACKET, SPARE}) {
            all[slot] += hashOf(x, slot);
        }
        int taped = x.feed(0, 0, 0, 0, 0);
        x.end(SPARE, taped);
        all[8] = taped + ":" + hashOf(x, SPARE);
        return all;
    }

    static String hex(byte[] it) {
        StringBuilder text = new StringBuilder();
        for (byte b : it) {
            text.append(Character.forDigit(b >> 4 & 15, 16)).append(Character.forDigit(b & 15, 16));
        }
        return text.toString();
    }

    static byte[] join(byte[]... parts) {
        int n = 0;
        for (byte[] part : parts) {
            n += part.length;
        }
        byte[] it = new byte[n];
        int at = 0;
        for (byte[] part : parts) {
            System.arraycopy(part, 0, it, at, part.length);
            at += part.length;
        }
        return it;
    }
}
