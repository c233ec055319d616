import java.io.IOException;
import java.io.UncheckedIOException;
import java.nio.file.Files;
import java.nio.file.Path;
import java.util.ArrayList;
import java.util.List;

/** The words of the document, for tests that quote the sentence that they are for. Its part 0 is 'Terms'. */
final class Document {
    static final int TERMS = 0;
    static final int PROMISES = 28;
    private static final Path FILE = Path.of("../shared/DOC.md");

    private final List<String> parts = new ArrayList<>();

    Document() {
        String text = plain(read());
        parts.add(between(text, "There are 6 farmers", "Ahead of the calls"));
        for (int promise = 1; promise < PROMISES; promise++) {
            parts.add(words(between(text, "## Promise " + promise + ":", "## Promise " + (promise + 1) + ":")));
        }
        parts.add(words(between(text, "## Promise " + PROMISES + ":", "## Not promised")));
    }

    private static String read() {
        try {
            return Files.readString(FILE);
        } catch (IOException e) {
            throw new UncheckedIOException(e);
        }
    }

    /** Without the signs for code and the ends of lines, so that a quote need not bear them. */
    private static String plain(String text) {
        return text.replace("`", "").replaceAll("\\s+", " ");
    }

    private static String between(String text, String begin, String end) {
        int from = text.indexOf(begin);
        int to = text.indexOf(end);
        return from >= 0 && to > from ? text.substring(from, to) : "";
    }

    /** What stands behind the heading and the signature. */
    private static String words(String promise) {
        int signature = promise.indexOf("): ");
        return signature >= 0 ? promise.substring(signature + 3) : "";
    }

    String part(int number) {
        return parts.get(number);
    }

    boolean says(int part, String words) {
        return part(part).contains(words);
    }
}
