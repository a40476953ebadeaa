import java.io.IOException;
import java.nio.file.Files;
import java.nio.file.Path;
import java.util.ArrayList;
import java.util.List;
import java.util.regex.Matcher;
import java.util.regex.Pattern;
import java.util.stream.Collectors;
import java.util.stream.Stream;

/** The tests stand for the document: what they quote is there, and no term and no promise is left out. */
public final class DocumentTest {
    private static final Pattern QUOTE = Pattern.compile("due\\.sentence\\(((?:\"[^\"]*\"[\\s+]*)+)\\);");
    private static final Pattern PIECE = Pattern.compile("\"([^\"]*)\"");

    public static void main(String[] args) throws IOException {
        Due due = new Due();
        String document = Files.readString(Path.of("../shared/DOC.md"));
        List<String> quotes = quotes();
        due.holds("tests quote the document", !quotes.isEmpty());
        for (String quote : quotes) {
            due.holds("the document says: " + quote, document.lines().anyMatch(line -> says(line, quote)));
        }
        List<String> binding = binding(document);
        due.holds("the document has terms and promises", !binding.isEmpty());
        for (String paragraph : binding) {
            due.holds("a test quotes: " + paragraph, quotes.stream().anyMatch(quote -> says(paragraph, quote)));
        }
        due.end();
    }

    /** The paragraphs of "Terms" and of the promises. */
    private static List<String> binding(String document) {
        return document.lines().dropWhile(line -> !line.equals("## Terms"))
            .takeWhile(line -> !line.equals("## Not promised"))
            .filter(line -> !line.isBlank() && !line.startsWith("#")).toList();
    }

    private static List<String> quotes() throws IOException {
        List<Path> tests;
        try (Stream<Path> files = Files.list(Path.of("src/test/java"))) {
            tests = files.filter(file -> file.toString().endsWith("Test.java")).sorted().toList();
        }
        List<String> quotes = new ArrayList<>();
        for (Path test : tests) {
            Matcher found = QUOTE.matcher(Files.readString(test));
            while (found.find()) {
                quotes.add(PIECE.matcher(found.group(1)).results().map(piece -> piece.group(1))
                    .collect(Collectors.joining()));
            }
        }
        return quotes;
    }

    /** Two dots in a quote stand for words that it leaves out. */
    private static boolean says(String paragraph, String quote) {
        int from = 0;
        for (String part : quote.split("\\s*\\.\\.\\s*")) {
            int at = paragraph.indexOf(part, from);
            if (at < 0) {
                return false;
            }
            from = at + part.length();
        }
        return true;
    }
}
