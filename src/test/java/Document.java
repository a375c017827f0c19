import java.io.IOException;
import java.io.UncheckedIOException;
import java.nio.file.Files;
import java.nio.file.Path;

/** The document, so that a test can quote the sentence that it holds; run in the project's folder. */
final class Document {
    private static final String TEXT = read();

    private Document() { }

    /** Whether the document says a quote: each part of it, " ... " standing for what is left out. */
    static boolean says(String quote) {
        for (String part : quote.split(" \\.\\.\\. ")) {
            if (!TEXT.contains(part)) return false;
        }
        return true;
    }

    private static String read() {
        try {
            return Files.readString(Path.of("../shared/DOC.md")).replaceAll("\\s+", " ");
        } catch (IOException failed) {
            throw new UncheckedIOException(failed);
        }
    }
}
