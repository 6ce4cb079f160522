import java.io.IOException;
import java.nio.file.Files;
import java.nio.file.Path;
import java.util.ArrayList;
import java.util.List;

/** The sentences of the document that promise something, and which of them a test has named. */
final class Document {
    private static final Path PLACE = Path.of("../shared/DOC.md");
    private final String text;
    private final boolean[] named;

    private Document(String text) {
        this.text = text;
        named = new boolean[text.length()];
    }

    static Document read() throws IOException {
        String all = Files.readString(PLACE);
        int from = all.indexOf("An object is used for");
        int to = all.indexOf("## Not promised");
        if (from < 0 || to < from) {
            throw new IOException("no terms and promises in " + PLACE);
        }
        // Headings and fences are no sentences; the face and the signatures are FaceTest's.
        String sentences = all.substring(from, to)
                .replaceAll("(?s)```java.*?```", "")
                .replaceAll("(?m)^(##|```).*$", "")
                .replaceAll("(?m)^`[^`]*`: ", "");
        return new Document(sentences.replaceAll("\\s+", " ").trim());
    }

    /** Answers whether the sentence stands in the document, at one place alone. */
    boolean name(String sentence) {
        int from = text.indexOf(sentence);
        if (from < 0 || from != text.lastIndexOf(sentence)) {
            return false;
        }
        for (int i = 0; i < sentence.length(); i++) {
            named[from + i] = true;
        }
        return true;
    }

    List<String> unnamed() {
        List<String> pieces = new ArrayList<>();
        StringBuilder piece = new StringBuilder();
        for (int i = 0; i <= text.length(); i++) {
            if (i < text.length() && !named[i]) {
                piece.append(text.charAt(i));
            } else {
                if (!piece.toString().isBlank()) {
                    pieces.add(piece.toString().trim());
                }
                piece.setLength(0);
            }
        }
        return pieces;
    }
}
