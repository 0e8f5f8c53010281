import java.io.IOException;
import java.nio.file.Files;
import java.nio.file.Path;

/** The words of ../shared/DOC.md with single blanks, and how far a walk through them has come. */
final class Document {
    private static final Path PLACE = Path.of("../shared/DOC.md");
    private static final String WORDS = read();
    private static int at = 0;

    private Document() {
    }

    private static String read() {
        try {
            return Files.readString(PLACE).replaceAll("\\s+", " ").trim();
        } catch (IOException e) {
            System.out.println("the document cannot be read: " + e);
            return "";
        }
    }

    static boolean has(String words) {
        return WORDS.contains(words);
    }

    /** Goes behind these words, if they come next; else stays. */
    static boolean goesOn(String words) {
        int start = at < WORDS.length() && WORDS.charAt(at) == ' ' ? at + 1 : at;
        if (!WORDS.startsWith(words, start)) {
            return false;
        }
        at = start + words.length();
        return true;
    }

    static boolean isAtEnd() {
        return at > 0 && at == WORDS.length();
    }

    /** What comes next, to be told when a walk has lost its way. */
    static String next() {
        return WORDS.substring(at, Math.min(WORDS.length(), at + 60));
    }

    /** The words from the first of these up to the second. */
    static String between(String from, String to) {
        int start = WORDS.indexOf(from);
        int end = start < 0 ? -1 : WORDS.indexOf(to, start);
        return end < 0 ? "" : WORDS.substring(start + from.length(), end);
    }
}
