import java.io.IOException;
import java.io.UncheckedIOException;
import java.nio.file.Files;
import java.nio.file.Path;

/** The document, cut at its headings, so that a test can name the words that it looks at. */
final class Doc {
    static final int PROMISES = 43;
    static final int PARTS = 5;
    private static final String TEXT = read();

    private Doc() { }

    private static String read() {
        try {
            return Files.readString(Path.of("../shared/DOC.md"));
        } catch (IOException e) {
            throw new UncheckedIOException(e);
        }
    }

    static String promise(int n) {
        return between("## Promise " + n + ": ", "\n## ");
    }

    /** A part of 'Terms'; 0: what stands ahead of part 1. */
    static String part(int n) {
        String next = n < PARTS ? "\n======== " : "\nAhead of the calls";
        return n == 0 ? between("## Terms", next) : between("======== " + n + " ", next);
    }

    static String head() {
        return between("## What it is", "\n## ");
    }

    private static String between(String from, String to) {
        int start = TEXT.indexOf(from);
        int end = TEXT.indexOf(to, start + from.length());
        return start < 0 || end < 0 ? "" : TEXT.substring(start, end);
    }
}
