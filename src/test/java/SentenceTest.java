import java.io.IOException;
import java.nio.file.DirectoryStream;
import java.nio.file.Files;
import java.nio.file.Path;
import java.util.ArrayList;
import java.util.List;
import java.util.regex.Matcher;
import java.util.regex.Pattern;

/**
 * Holds the words that tests say they are about against the document: they must stand in it, and nothing of its terms and
 * promises may be left over.
 */
public final class SentenceTest {
    private static final Pattern QUOTED = Pattern.compile("Check\\.sentence\\(\"((?:[^\"\\\\]|\\\\.)*)\"\\)");
    /** Words as few as these between two quotes are not looked at. */
    private static final int FEW_LETTERS = 3;

    public static void main(String[] args) throws IOException {
        Path path = Path.of("../shared/DOC.md");
        if (!Files.exists(path)) {
            System.out.println("no document at " + path + ", so nothing is held against it");
            return;
        }
        String doc = plain(Files.readString(path));
        boolean[] quoted = new boolean[doc.length()];
        for (String quote : quotes(Path.of("src/test/java"))) {
            Check.due("the document has \"" + quote + "\"", true, mark(doc, quote, quoted));
        }
        for (String rest : leftOver(doc, quoted)) {
            Check.due("no test is about \"" + rest + "\"", true, false);
        }
        Check.finish();
    }

    /** What is promised, and the words for it, in one line, without headings, faces and signs for code. */
    private static String plain(String doc) {
        String ahead = doc.substring(doc.indexOf("An object is used"), doc.indexOf("## The public face"));
        String terms = ahead + doc.substring(doc.indexOf("## Terms"), doc.indexOf("## Not promised"));
        return terms.replaceAll("(?m)^## .*$", " ").replaceAll("(?m)^```.*$", " ").replaceAll("(?m)^`[^`]*`: ", " ")
            .replaceAll("\\s+", " ");
    }

    private static List<String> quotes(Path tests) throws IOException {
        List<String> quotes = new ArrayList<>();
        try (DirectoryStream<Path> files = Files.newDirectoryStream(tests, "*.java")) {
            for (Path file : files) {
                Matcher matcher = QUOTED.matcher(Files.readString(file));
                while (matcher.find()) {
                    quotes.add(matcher.group(1).replace("\\\"", "\""));
                }
            }
        }
        return quotes;
    }

    private static boolean mark(String doc, String quote, boolean[] quoted) {
        boolean found = false;
        for (int at = doc.indexOf(quote); at >= 0; at = doc.indexOf(quote, at + 1)) {
            found = true;
            for (int i = at; i < at + quote.length(); i++) {
                quoted[i] = true;
            }
        }
        return found;
    }

    private static List<String> leftOver(String doc, boolean[] quoted) {
        List<String> left = new ArrayList<>();
        int from = 0;
        for (int i = 0; i <= doc.length(); i++) {
            if (i < doc.length() && !quoted[i]) {
                continue;
            }
            String rest = doc.substring(from, i).trim();
            if (rest.chars().filter(Character::isLetter).count() > FEW_LETTERS) {
                left.add(rest);
            }
            from = i + 1;
        }
        return left;
    }
}
