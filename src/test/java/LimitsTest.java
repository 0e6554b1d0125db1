import java.io.IOException;
import java.lang.reflect.InvocationTargetException;
import java.net.URL;
import java.net.URLClassLoader;
import java.nio.file.Files;
import java.nio.file.Path;
import java.util.Arrays;
import java.util.Comparator;
import java.util.stream.Stream;
import javax.tools.ToolProvider;

/**
 * The numbers of times after which ArithmeticException is thrown. No bytes are known with which SAMPLE, SMALL or
 * BALL would come to theirs: so the class is compiled again with a limit that is just enough for some bytes, and
 * with one less. That the limits themselves are the document's is seen in the text of the class.
 */
public final class LimitsTest {
    private static final Path CLASS = Path.of("src/main/java/LatticeSuite.java");

    private static final byte[] MESSAGE = Check.some(7, 30);

    private static String source;

    public static void main(String[] args) throws Exception {
        source = Files.readString(CLASS);
        for (int set = 0; set < 3; set++) {
            kemSample(set);
            dsaSample(set);
            dsaSmall(set);
            dsaBall(set);
            dsaTries(set);
        }
        Check.end("LimitsTest");
    }

    /** The class with another number in one of its constants. */
    private static final class Changed implements AutoCloseable {
        private final Path folder;
        private final URLClassLoader loader;
        private final Class<?> type;

        Changed(String constant, int before, int after) throws Exception {
            String line = "int " + constant + " = " + before + ";";
            int at = source.indexOf(line);
            Check.holds(line + " stands in the class", at >= 0);
            Check.due(line + " stands there once", source.indexOf(line, at + 1), -1);
            folder = Files.createTempDirectory("limits");
            Path file = folder.resolve("LatticeSuite.java");
            Files.writeString(file, source.replace(line, "int " + constant + " = " + after + ";"));
            int failed = ToolProvider.getSystemJavaCompiler().run(null, null, null, "-encoding", "UTF-8", "-d",
                    folder.toString(), file.toString());
            Check.due("it compiles", failed, 0);
            loader = new URLClassLoader(new URL[] {folder.toUri().toURL()}, null);
            type = loader.loadClass("LatticeSuite");
        }

        Runs make() throws Exception {
            return new Runs(type.getConstructor().newInstance());
        }

        @Override
        public void close() throws IOException {
            loader.close();
            try (Stream<Path> files = Files.walk(folder)) {
                files.sorted(Comparator.reverseOrder()).forEach(file -> file.toFile().delete());
            }
        }
    }

    /** An object of the changed class. */
    private record Runs(Object x) {
        Object call(String name, int... numbers) throws Exception {
            Class<?>[] types = new Class<?>[numbers.length];
            Arrays.fill(types, int.class);
            try {
                return x.getClass().getMethod(name, types).invoke(x, Arrays.stream(numbers).boxed().toArray());
            } catch (InvocationTargetException e) {
                return e.getCause().getClass().getSimpleName();
            }
        }

        void put(int slot, byte[] it) throws Exception {
            byte[] whole = Arrays.copyOf(it, (it.length + 19) / 20 * 20);
            for (int i = 0; i < whole.length; i += 20) {
                int[] five = new int[5];
                for (int j = 0; j < 20; j++) {
                    five[j / 4] = five[j / 4] << 8 | whole[i + j] & 255;
                }
                call("feed", five);
            }
            call("end", slot, it.length);
        }

        String hash(int slot) throws Exception {
            call("copy", slot, Check.MESSAGE);
            call("digest", 1, 0);
            StringBuilder text = new StringBuilder(call("length", slot) + ":");
            for (int i = 0; i < 32; i += 8) {
                text.append(call("word", Check.SHARED, i)).append(',');
            }
            return text.toString();
        }

        /** All that it holds; it is of no use afterwards. */
        String picture() throws Exception {
            StringBuilder text = new StringBuilder("" + call("length", Check.SHARED));
            for (int i = 0; i < (int) call("length", Check.SHARED); i += 8) {
                text.append(',').append(call("word", Check.SHARED, i));
            }
            for (int slot : new int[] {3, 0, 1, 2, 4, 5, 7}) {
                text.append(' ').append(hash(slot));
            }
            Object taped = call("feed", 0, 0, 0, 0, 0);
            call("end", 7, (Integer) taped);
            return text.append(' ').append(hash(7)).toString();
        }
    }

    private interface Making {
        void make(Runs x) throws Exception;
    }

    /** That the call does as in the class itself with a limit of `enough`, and throws with one less. */
    private static void limit(String constant, int due, int enough, Making making, String name, int... numbers)
            throws Exception {
        Runs first = new Runs(new LatticeSuite());
        making.make(first);
        Object want = first.call(name, numbers);
        String what = name + Arrays.toString(numbers) + " with " + constant + " = ";
        Check.holds(what + due + " gives an answer", !want.toString().endsWith("Exception"));
        try (Changed just = new Changed(constant, due, enough)) {
            Runs x = just.make();
            making.make(x);
            Check.due(what + enough, x.call(name, numbers), want);
            Check.due(what + enough, x.picture(), first.picture());
        }
        try (Changed less = new Changed(constant, due, enough - 1)) {
            Runs x = less.make();
            Runs y = new Runs(new LatticeSuite());
            making.make(x);
            making.make(y);
            Check.due(what + (enough - 1), x.call(name, numbers), "ArithmeticException");
            Check.due(what + (enough - 1) + " changes nothing", x.picture(), y.picture());
        }
    }

    /** Bytes everywhere, so that a change would be seen. */
    private static void fill(Runs x) throws Exception {
        for (int slot = 0; slot < 8; slot++) {
            x.put(slot, Check.some(20 + slot, 41 + 2 * slot));
        }
        x.call("feed", 1, 2, 3, 4, 5);
    }

    private static void kemSample(int set) throws Exception {
        Check.says("Terms", "if 280 times three are not enough: ArithmeticException");
        PlainKem plain = new PlainKem(set);
        byte[] random = Check.some(set, 64);
        byte[][] keys = plain.keys(random);
        byte[][] wrapped = plain.wrap(keys[0], Check.some(1, 32));
        int most = 0;
        for (int i = 0; i < plain.k * plain.k; i++) {
            byte[] x = Check.join(Plain.part(keys[0], 384 * plain.k, 32), Plain.of(i / plain.k, i % plain.k));
            most = Math.max(most, PlainKem.triples(x));
        }
        Making slots = x -> {
            fill(x);
            x.call("end", Check.SPARE, 9);
            x.put(Check.PUBLIC, keys[0]);
            x.put(Check.SECRET, keys[1]);
            x.put(Check.PACKET, wrapped[0]);
            x.put(Check.RANDOM, Check.some(1, 32));
            x.call("feed", 1, 2, 3, 4, 5);
        };
        limit("MOST_TRIPLES", 280, most, x -> {
            fill(x);
            x.call("end", Check.SPARE, 9);
            x.put(Check.RANDOM, random);
        }, "kemKeys", set);
        limit("MOST_TRIPLES", 280, most, slots, "kemWrap", set);
        limit("MOST_TRIPLES", 280, most, slots, "kemOpen", set);
    }

    private static Making toSign(byte[] secret) {
        return x -> {
            fill(x);
            x.call("end", Check.SPARE, 9);
            x.put(Check.SECRET, secret);
            x.put(Check.MESSAGE, MESSAGE);
            x.put(Check.RANDOM, new byte[32]);
            x.call("feed", 1, 2, 3, 4, 5);
        };
    }

    private static Making toVerify(byte[] key, byte[] packet) {
        return x -> {
            fill(x);
            x.call("end", Check.SPARE, 9);
            x.put(Check.PUBLIC, key);
            x.put(Check.PACKET, packet);
            x.put(Check.MESSAGE, MESSAGE);
            x.call("feed", 1, 2, 3, 4, 5);
        };
    }

    private static Making dsaRandom(byte[] random) {
        return x -> {
            fill(x);
            x.call("end", Check.SPARE, 9);
            x.put(Check.RANDOM, random);
            x.call("feed", 1, 2, 3, 4, 5);
        };
    }

    private static void dsaSample(int set) throws Exception {
        Check.says("Terms", "at most 298 times, else ArithmeticException");
        PlainDsa plain = new PlainDsa(set);
        byte[] random = seedThatRefuses(plain);
        byte[][] keys = plain.keys(random);
        byte[] packet = plain.sign(keys[1], MESSAGE, new byte[32])[0];
        int most = mostTriples(plain, Plain.part(keys[0], 0, 32));
        limit("MOST_TRIPLES", 298, most, dsaRandom(random), "dsaKeys", set);
        limit("MOST_TRIPLES", 298, most, toSign(keys[1]), "dsaSign", set, -1);
        limit("MOST_TRIPLES", 298, most, toVerify(keys[0], packet), "dsaVerify", set, -1);
    }

    private static int mostTriples(PlainDsa plain, byte[] seed) {
        int most = 0;
        for (int i = 0; i < plain.k * plain.l; i++) {
            byte[] x = Check.join(seed, Plain.of(i % plain.l, i / plain.l));
            most = Math.max(most, PlainDsa.triples(x));
        }
        return most;
    }

    /** One number in a thousand is refused: so in few matrices none is. */
    private static byte[] seedThatRefuses(PlainDsa plain) {
        byte[] random = Check.some(3, 32);
        while (mostTriples(plain, Plain.part(plain.keys(random)[0], 0, 32)) < 257) {
            random[0]++;
        }
        return random;
    }

    /** With a byte of which the last number takes one half, and with one of which it takes the other. */
    private static void dsaSmall(int set) throws Exception {
        Check.says("Terms", "at most 481, else ArithmeticException");
        PlainDsa plain = new PlainDsa(set);
        for (int half = 0; half < 2; half++) {
            byte[] random = Check.some(4, 32);
            while (mostHalves(plain, random) % 2 != half) {
                random[0]++;
            }
            limit("MOST_SMALL", 481, (mostHalves(plain, random) + 1) / 2, dsaRandom(random), "dsaKeys", set);
        }
    }

    private static int mostHalves(PlainDsa plain, byte[] random) {
        byte[] seeds = Plain.shake256(Check.join(random, Plain.of(plain.k, plain.l)), 128);
        int most = 0;
        for (int i = 0; i < plain.k + plain.l; i++) {
            most = Math.max(most, plain.smallHalves(Check.join(Plain.part(seeds, 32, 64), Plain.le(i, 2))));
        }
        return most;
    }

    private static void dsaBall(int set) throws Exception {
        Check.says("Terms", "at most 121, else ArithmeticException");
        PlainDsa plain = new PlainDsa(set);
        byte[][] keys = plain.keys(Check.some(5, 32));
        byte[][] signed = plain.sign(keys[1], MESSAGE, new byte[32]);
        int tries = (signed[1][0] & 255) * 256 + (signed[1][1] & 255);
        int most = 0;
        for (int i = 0; i < tries; i++) {
            most = Math.max(most, plain.ballBytes(plain.new Try(keys[1], MESSAGE, new byte[32], i * plain.l).hash));
        }
        limit("MOST_BALL", 121, most, toSign(keys[1]), "dsaSign", set, -1);
        int last = plain.ballBytes(Plain.part(signed[0], 0, plain.c));
        limit("MOST_BALL", 121, last, toVerify(keys[0], signed[0]), "dsaVerify", set, -1);
    }

    private static void dsaTries(int set) throws Exception {
        Check.says("Terms", "After 814 of them: ArithmeticException.");
        PlainDsa plain = new PlainDsa(set);
        for (int seed = 6; seed < 10; seed++) {
            byte[][] keys = plain.keys(Check.some(seed, 32));
            byte[][] signed = plain.sign(keys[1], MESSAGE, new byte[32]);
            int tries = (signed[1][0] & 255) * 256 + (signed[1][1] & 255);
            limit("MOST_TRIES", 814, tries, toSign(keys[1]), "dsaSign", set, -1);
        }
    }
}
