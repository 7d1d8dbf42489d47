import java.io.IOException;
import java.nio.file.DirectoryStream;
import java.nio.file.Files;
import java.nio.file.Path;
import java.util.ArrayList;
import java.util.Arrays;
import java.util.List;

/**
 * Every sentence of DOC.md, from "What it is" to "Not promised", is quoted by a test (with Checks.sentence), and every
 * quote stands in DOC.md. The face and the signatures are compared by FaceTest.
 */
public final class DocumentTest {
    private static final Path DOC = Path.of("../shared/DOC.md");
    private static final Path TESTS = Path.of("src/test/java");
    private static final String QUOTE = "Checks.sentence(\"";
    /** What a paragraph or a list is headed by, and a first line that only tells what the document is about. */
    private static final List<String> LABELS = List.of("Temperatures.", "Spirits and tubes.", "Baths.", "The thumb.",
            "Points and scales.", "A minute.", "Setup text.", "The error codes are:", "Undo.", "Forecasts.",
            "A gallery of thermoscopes: tubes with bulbs and spirits that expand, baths with fixed temperatures, scales"
            + " that are fitted to marked points, leaks, spills, and a duke who lays a thumb on a bulb.");

    public static void main(String[] args) throws IOException {
        List<String> lines = lines();
        List<String> quotes = quotes();
        Checks.is("lines were found", lines.size() > 250, true);
        for (String quote : quotes) {
            Checks.is("DOC.md has \"" + quote + "\"", lines.stream().anyMatch(line -> line.contains(quote)), true);
        }
        for (String line : lines) {
            Checks.is("no test quotes, of \"" + line + "\",", unquoted(line, quotes), "");
        }
        Checks.finish("DocumentTest");
    }

    /** The lines of DOC.md that a test can quote, without the marks of its form. */
    private static List<String> lines() throws IOException {
        List<String> lines = new ArrayList<>();
        boolean code = false;
        for (String line : Files.readAllLines(DOC)) {
            if (line.equals("## Not promised")) {
                return lines;
            }
            code ^= line.startsWith("```");
            String words = line.replaceFirst("^`[^`]*\\([^`]*`: ?", "").replaceFirst("^- ", "").replace("`", "");
            if (!code && !line.startsWith("#") && !words.isBlank()) {
                lines.add(words);
            }
        }
        return lines;
    }

    private static List<String> quotes() throws IOException {
        List<String> quotes = new ArrayList<>();
        try (DirectoryStream<Path> tests = Files.newDirectoryStream(TESTS, "*Test.java")) {
            for (Path test : tests) {
                String source = Files.readString(test);
                int from = source.indexOf(QUOTE);
                while (from >= 0) {
                    quotes.add(quote(source.substring(from + QUOTE.length(), source.indexOf(");\n", from))));
                    from = source.indexOf(QUOTE, from + 1);
                }
            }
        }
        quotes.removeIf(String::isEmpty);
        return quotes;
    }

    /** Pieces that are joined by + become one text. */
    private static String quote(String literals) {
        return literals.replaceAll("\"\\s*\\+\\s*\"", "").replaceAll("\"$", "").replace("\\\"", "\"");
    }

    /** The words of the line that stand in no quote. */
    private static String unquoted(String line, List<String> quotes) {
        char[] left = line.toCharArray();
        for (String quote : quotes) {
            blank(left, line, quote);
        }
        for (String label : LABELS) {
            blank(left, line, label);
        }
        return new String(left).replaceAll("[^A-Za-z0-9]+", " ").trim();
    }

    private static void blank(char[] left, String line, String quote) {
        int from = line.indexOf(quote);
        while (from >= 0) {
            Arrays.fill(left, from, from + quote.length(), ' ');
            from = line.indexOf(quote, from + 1);
        }
    }
}
