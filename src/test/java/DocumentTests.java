import java.io.IOException;
import java.nio.file.DirectoryStream;
import java.nio.file.Files;
import java.nio.file.Path;
import java.util.Arrays;
import java.util.regex.Matcher;
import java.util.regex.Pattern;

/**
 * Each clause of the document's terms and promises is quoted by a test (CHECKS.terms("..."), CHECKS.promise(8, "...")),
 * at least in part, so that none is left without one.
 */
public final class DocumentTests {
    private static final Checks CHECKS = new Checks();
    private static final Path TESTS = Path.of("src/test/java");
    private static final Pattern QUOTE = Pattern.compile(
            "CHECKS\\.(?:terms\\(|promise\\((\\d+), )\"((?:[^\"\\\\]|\\\\.)*)\"");

    public static void main(String[] args) throws IOException {
        Document document = new Document();
        boolean[][] quoted = new boolean[Document.PROMISES + 1][];
        for (int part = 0; part < quoted.length; part++) {
            quoted[part] = new boolean[document.part(part).length()];
            CHECKS.holds("part " + part + " of the document is there", quoted[part].length > 20);
        }
        try (DirectoryStream<Path> files = Files.newDirectoryStream(TESTS, "*Tests.java")) {
            for (Path file : files) {
                markQuotes(Files.readString(file), document, quoted);
            }
        }
        for (int part = 0; part < quoted.length; part++) {
            CHECKS.begin(part == 0 ? "Terms" : "promise " + part);
            clausesAreQuoted(document.part(part), quoted[part]);
        }
        CHECKS.end();
    }

    private static void markQuotes(String source, Document document, boolean[][] quoted) {
        Matcher matcher = QUOTE.matcher(source);
        while (matcher.find()) {
            int part = matcher.group(1) == null ? Document.TERMS : Integer.parseInt(matcher.group(1));
            String words = matcher.group(2).replace("\\\"", "\"");
            String text = document.part(part);
            for (int at = text.indexOf(words); at >= 0; at = text.indexOf(words, at + 1)) {
                Arrays.fill(quoted[part], at, at + words.length(), true);
            }
        }
    }

    /** Clauses end with ".", ";" or ":" and a blank. HistoryEdgesTests sees to it who is an act. */
    private static void clausesAreQuoted(String text, boolean[] quoted) {
        Matcher matcher = Pattern.compile("(?:[^.;:]|[.;:](?! ))+").matcher(text);
        while (matcher.find()) {
            String clause = matcher.group().trim();
            if (!clause.isEmpty() && !clause.equals("This is an act")) {
                CHECKS.holds("a test quotes '" + clause + "'", isQuoted(quoted, matcher.start(), matcher.end()));
            }
        }
    }

    private static boolean isQuoted(boolean[] quoted, int from, int to) {
        for (int i = from; i < to; i++) {
            if (quoted[i]) {
                return true;
            }
        }
        return false;
    }
}
