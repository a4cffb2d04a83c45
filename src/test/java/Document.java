import java.io.IOException;
import java.nio.file.Files;
import java.nio.file.Path;

/** The document's words, and which of them were quoted by tests. */
final class Document {
    private static final String TEXT = read();
    private static final boolean[] QUOTED = new boolean[TEXT.length()];

    private Document() {
    }

    /** The document as one line, without headings and the code of the face, which FaceTest looks after. */
    private static String read() {
        try {
            String all = Files.readString(Path.of("..", "shared", "DOC.md"));
            String words = all.replaceAll("(?s)```java.*?```", " ").replaceAll("```(text)?", " ");
            return words.replaceAll("(?m)^#.*$", " ").replaceAll("\\s+", " ");
        } catch (IOException e) {
            throw new IllegalStateException("the document can't be read; start .ci/run", e);
        }
    }

    /** Marks a quote; false if the document does not say it, or says it in two places. */
    static boolean quote(String words) {
        int at = TEXT.indexOf(words);
        if (at < 0 || TEXT.indexOf(words, at + 1) >= 0) {
            return false;
        }
        for (int i = at; i < at + words.length(); i++) {
            QUOTED[i] = true;
        }
        return true;
    }

    /** The first words from the terms to the last promise that no test has quoted; empty if there are none. */
    static String firstNotQuoted() {
        int end = TEXT.indexOf("How the state is held inside");
        for (int i = TEXT.indexOf("PROGRAMS 0 to 2"); i < end; i++) {
            if (!QUOTED[i] && TEXT.charAt(i) != ' ') {
                return TEXT.substring(i, Math.min(end, i + 60));
            }
        }
        return "";
    }
}
