import java.io.IOException;
import java.lang.reflect.InvocationTargetException;
import java.lang.reflect.Method;
import java.nio.file.DirectoryStream;
import java.nio.file.Files;
import java.nio.file.Path;
import java.util.HashMap;
import java.util.Map;

/**
 * Runs of calls with their answers, from src/test/runs. Those in openssl.txt come of keys, ciphertexts and
 * signatures that OpenSSL 3.5.7 made, and those in bouncycastle.txt of signatures of hashes that Bouncy Castle
 * 1.86.2 made, but for the numbers of tries, which neither tells. The others come of a program of the same author
 * as the class, written from the document, too, but in Python, with most hash functions from its library, each
 * transform as the sum that the document tells, and each tree by recursion.
 */
public final class RunsTest {
    private static final int MOST_CALLS = 512;

    public static void main(String[] args) throws Exception {
        Map<String, Method> methods = new HashMap<>();
        for (Method method : LatticeSuite.class.getMethods()) {
            methods.put(method.getName(), method);
        }
        int files = 0;
        try (DirectoryStream<Path> runs = Files.newDirectoryStream(Path.of("src/test/runs"), "*.txt")) {
            for (Path file : runs) {
                replay(file, methods);
                files++;
            }
        }
        Check.holds("there are runs", files > 0);
        Check.end("RunsTest");
    }

    private static void replay(Path file, Map<String, Method> methods) throws IOException, IllegalAccessException {
        LatticeSuite x = null;
        String title = "";
        int calls = 0;
        for (String line : Files.readAllLines(file)) {
            if (line.startsWith("#")) {
                title = line;
            } else if (line.equals("new")) {
                x = new LatticeSuite();
                calls = 0;
            } else {
                String[] sides = line.split(" = ");
                calls++;
                Check.due(file.getFileName() + ", " + title + ", call " + calls + ": " + sides[0],
                        answer(x, sides[0].split(" "), methods), sides[1]);
                Check.holds(title + " is no longer than a run may be", calls <= MOST_CALLS);
            }
        }
    }

    private static String answer(LatticeSuite x, String[] words, Map<String, Method> methods)
            throws IllegalAccessException {
        Object[] numbers = new Object[words.length - 1];
        for (int i = 0; i < numbers.length; i++) {
            numbers[i] = Integer.valueOf(words[i + 1]);
        }
        try {
            Object got = methods.get(words[0]).invoke(x, numbers);
            return got instanceof Boolean yes ? (yes ? "1" : "0") : got.toString();
        } catch (InvocationTargetException e) {
            return e.getCause().getClass().getSimpleName();
        }
    }
}
