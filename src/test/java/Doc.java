import java.io.IOException;
import java.nio.file.Files;
import java.nio.file.Path;

/** The document, so that a test can name the words that it holds the class to. Run from the project's root. */
final class Doc {
    static final Path PLACE = Path.of("../shared/DOC.md");
    static final int PROMISES = 34;
    private static final String[] SECTIONS = read();

    private Doc() {
    }

    /** What follows in a test is due by these words of a promise, or (0) of what stands ahead of the promises. */
    static void says(int promise, String words) {
        if (!isThere()) {
            return;
        }
        Due.isTrue("the document says in " + promise + ": " + words, section(promise).contains(words));
    }

    /** A checkout without the document beside it can still test the class. */
    static boolean isThere() {
        return SECTIONS.length > 0;
    }

    static String section(int promise) {
        return SECTIONS[promise];
    }

    private static String[] read() {
        if (!Files.exists(PLACE)) {
            System.out.println("no document at " + PLACE + ": its words are not looked up");
            return new String[0];
        }
        try {
            String text = Files.readString(PLACE).replaceAll("## Not promised(?s:.*)", "");
            String[] parts = text.split("## Promise \\d+: [^\\n]*\\n");
            if (parts.length != PROMISES + 1) {
                throw new IllegalStateException("promises found: " + (parts.length - 1));
            }
            for (int i = 0; i < parts.length; i++) {
                parts[i] = parts[i].replaceAll("\\s+", " ");
            }
            return parts;
        } catch (IOException e) {
            throw new IllegalStateException(e);
        }
    }
}
