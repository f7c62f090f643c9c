import java.io.IOException;
import java.nio.file.Files;
import java.nio.file.Path;

/** The words of ../shared/DOC.md, so that a test can't name a sentence that doesn't stand there. */
final class Document {
    private final String[] parts;

    Document(String path) {
        parts = read(path).split("\n## ");
    }

    private static String read(String path) {
        try {
            return Files.readString(Path.of(path));
        } catch (IOException e) {
            throw new IllegalArgumentException("there is no document " + path, e);
        }
    }

    /** Whether the words stand in this promise, or in a part that is no promise; line ends and blanks are alike. */
    boolean says(int promise, String words) {
        for (String part : parts) {
            boolean readable = !part.startsWith("Promise ") || part.startsWith("Promise " + promise + ":");
            if (readable && part.replaceAll("\\s+", " ").contains(words)) {
                return true;
            }
        }
        return false;
    }
}
