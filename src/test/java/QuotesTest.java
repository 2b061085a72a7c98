import java.io.IOException;
import java.nio.file.Files;
import java.nio.file.Path;
import java.util.ArrayList;
import java.util.Arrays;
import java.util.List;
import java.util.Map;
import java.util.TreeMap;
import java.util.regex.Matcher;
import java.util.regex.Pattern;
import java.util.stream.Stream;

/**
 * Compares what the comments of the tests quote, as Promise 2: "..." or Terms: "...", with the document: every quote
 * has to stand there, and every word of the promises and the terms has to be in some quote. So no sentence of the
 * document is without a test that names it, and no test names one that is gone.
 */
public final class QuotesTest {
    private static final Path DOCUMENT = Path.of("../shared/DOC.md");
    private static final Path TESTS = Path.of("src/test/java");
    private static final Pattern QUOTE = Pattern.compile("(Promise \\d+|Terms): \"([^\"]+)\"");
    private static final Pattern WORD = Pattern.compile("[A-Za-z0-9]+");

    public static void main(String[] args) throws IOException {
        if (!Files.exists(DOCUMENT)) {
            Check.holds(false, "there is a document at " + DOCUMENT);
            Check.end();
        }
        Map<String, String> parts = parts(Files.readString(DOCUMENT));
        Check.answers(17, parts::size, "the promises and the terms");
        Map<String, boolean[]> covered = new TreeMap<>();
        parts.forEach((name, text) -> covered.put(name, new boolean[text.length()]));
        for (String comment : comments()) {
            Matcher quote = QUOTE.matcher(comment);
            while (quote.find()) {
                cover(parts, covered, quote.group(1), quote.group(2));
            }
        }
        parts.forEach((name, text) -> tellWhatIsMissing(name, text, covered.get(name)));
        Check.end();
    }

    /** The text of each promise, behind its call, and of the terms. */
    private static Map<String, String> parts(String document) {
        Map<String, String> parts = new TreeMap<>();
        for (String section : document.split("(?m)^## ")) {
            String title = section.substring(0, section.indexOf('\n'));
            String text = plain(section.substring(section.indexOf('\n')));
            if (title.startsWith("Promise ")) {
                parts.put(title.substring(0, title.indexOf(':')), text.replaceFirst("^`[^`]*`: ", ""));
            } else if (title.equals("Terms")) {
                parts.put(title, text);
            }
        }
        return parts;
    }

    private static String plain(String text) {
        return text.replaceAll("(?m)^```.*$", "").replaceAll("\\s+", " ").trim();
    }

    private static List<String> comments() throws IOException {
        List<String> comments = new ArrayList<>();
        try (Stream<Path> files = Files.list(TESTS)) {
            for (Path file : files.sorted().toList()) {
                Matcher comment = Pattern.compile("(?s)/\\*\\*(.*?)\\*/").matcher(Files.readString(file));
                while (!file.endsWith("QuotesTest.java") && comment.find()) {
                    comments.add(plain(comment.group(1).replaceAll("(?m)^\\s*\\*", " ")));
                }
            }
        }
        return comments;
    }

    private static void cover(Map<String, String> parts, Map<String, boolean[]> covered, String name, String quote) {
        String text = parts.getOrDefault(name, "");
        int at = text.indexOf(quote);
        Check.holds(at >= 0, name + " has: " + quote);
        while (at >= 0) {
            Arrays.fill(covered.get(name), at, at + quote.length(), true);
            at = text.indexOf(quote, at + 1);
        }
    }

    private static void tellWhatIsMissing(String name, String text, boolean[] covered) {
        StringBuilder missing = new StringBuilder();
        Matcher word = WORD.matcher(text);
        while (word.find()) {
            if (!covered[word.start()]) {
                missing.append(word.group()).append(' ');
            }
        }
        Check.compare("", missing.toString(), "what no test quotes of " + name);
    }
}
