import java.io.IOException;
import java.nio.file.DirectoryStream;
import java.nio.file.Files;
import java.nio.file.Path;
import java.util.ArrayList;
import java.util.Comparator;
import java.util.List;
import java.util.Map;
import java.util.TreeMap;
import java.util.regex.Matcher;
import java.util.regex.Pattern;

/**
 * That no words of the terms or of a promise are without a test: each test says by Check.says which words it is for,
 * and these, taken together, are the whole text of the terms, and of the promises 1 to 21 behind the heads of their
 * calls. (FaceTest has those heads.)
 */
public final class SentencesTest {
    private static final Path TESTS = Path.of("src/test/java");
    private static final Pattern SAYS =
            Pattern.compile("Check\\.says\\(\"([^\"]+)\",((?:\\s*\\+?\\s*\"[^\"]*\")+)\\)");
    private static final Pattern TEXT = Pattern.compile("\"([^\"]*)\"");

    public static void main(String[] args) throws IOException {
        Map<String, List<String>> quotes = quotes();
        for (int promise = 1; promise <= 21; promise++) {
            isQuoted("Promise " + promise, quotes);
        }
        isQuoted("Terms", quotes);
        Check.end("SentencesTest");
    }

    private static Map<String, List<String>> quotes() throws IOException {
        Map<String, List<String>> answer = new TreeMap<>();
        try (DirectoryStream<Path> files = Files.newDirectoryStream(TESTS, "*Test.java")) {
            for (Path file : files) {
                Matcher says = SAYS.matcher(Files.readString(file));
                while (says.find()) {
                    StringBuilder quote = new StringBuilder();
                    Matcher text = TEXT.matcher(says.group(2));
                    while (text.find()) {
                        quote.append(text.group(1));
                    }
                    answer.computeIfAbsent(says.group(1), key -> new ArrayList<>()).add(quote.toString());
                }
            }
        }
        return answer;
    }

    /** That nothing is left of the text below this heading if all that tests quote of it is taken away. */
    private static void isQuoted(String heading, Map<String, List<String>> quotes) {
        if (!Check.hasDocument()) {
            return;
        }
        String left = Check.section(heading).replaceAll("```(text)?", " ").replaceAll("`[^`]*`:?", " ");
        List<String> all = quotes.getOrDefault(heading, new ArrayList<>());
        all.sort(Comparator.comparing(String::length).reversed());
        for (String quote : all) {
            left = left.replace(quote, " ");
        }
        Check.due("what no test quotes of " + heading, left.replaceAll("[\\s.,;:()]+", " ").strip(), "");
    }
}
