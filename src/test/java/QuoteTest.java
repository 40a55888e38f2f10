import java.io.IOException;
import java.nio.file.Files;
import java.nio.file.Path;
import java.util.ArrayList;
import java.util.List;
import java.util.regex.Matcher;
import java.util.regex.Pattern;
import java.util.stream.Stream;

/** Each sentence that a test names stands in the document, and no sentence of the document is without a test. */
public final class QuoteTest {
    private static final Bench BENCH = new Bench("QuoteTest");
    private static final Path DOCUMENT = Path.of("../shared/DOC.md");
    /** What has nothing to test: headings, the face (LanguageTest has it), and words that only lead to others. */
    private static final String[] LEFT_ASIDE = {"# BeamHouse ## What it is .*? ==== ", "each have", "and a STATE:",
        "what later calls answer is free\\.", "## The public face .*? ## Terms", "HEARING bytes:", "```text",
        "LINKS: of FIRST and SECOND:", "DATA, GOON, AGAIN: ", "A tick of a DEVICE:", "UP:", "OBJECTS:",
        "## Promise \\d+: [\\w ]+ `[^`]*`:", "## Not promised .*"};

    public static void main(String[] args) throws IOException {
        String text = Files.readString(DOCUMENT).replaceAll("\\s+", " ");
        boolean[] told = new boolean[text.length()];
        for (String quote : quotes()) {
            BENCH.due("\"" + quote + "\" stands in the document", text.contains(quote) ? 1 : 0, 1);
            marks(told, Pattern.compile(Pattern.quote(quote)).matcher(text));
        }
        for (String words : LEFT_ASIDE) {
            marks(told, Pattern.compile(words).matcher(text));
        }
        BENCH.due("words without a test", wordsLeft(text, told), "");
        BENCH.ends();
    }

    private static List<String> quotes() throws IOException {
        List<String> quotes = new ArrayList<>();
        try (Stream<Path> files = Files.list(Path.of("src/test/java"))) {
            for (Path file : (Iterable<Path>) files.sorted()::iterator) {
                Matcher named = Pattern.compile("BENCH\\.sentence\\(\"([^\"]+)\"\\)").matcher(Files.readString(file));
                while (named.find()) {
                    quotes.add(named.group(1));
                }
            }
        }
        return quotes;
    }

    private static void marks(boolean[] told, Matcher found) {
        while (found.find()) {
            for (int i = found.start(); i < found.end(); i++) {
                told[i] = true;
            }
        }
    }

    private static String wordsLeft(String text, boolean[] told) {
        StringBuilder left = new StringBuilder();
        for (int i = 0; i < text.length(); i++) {
            left.append(told[i] ? ' ' : text.charAt(i));
        }
        return left.toString().replaceAll("[^A-Za-z0-9]+", " ").trim();
    }
}
