import java.io.IOException;
import java.nio.file.Files;
import java.nio.file.Path;
import java.util.List;

/** The document that the class keeps to. */
final class Document {
    private static final Path PATH = Path.of("../shared/DOC.md");

    private Document() {
    }

    /** The members that the public face shows, a line each, without the semicolon. */
    static List<String> face() throws IOException {
        return section("## The public face", "## Terms").lines().map(String::trim)
                .filter(line -> line.startsWith("public ") && line.endsWith(";"))
                .map(line -> line.substring(0, line.length() - 1)).toList();
    }

    /** All that can be shown by a call, without headings, the face, and the forms of the calls. */
    static String words() throws IOException {
        String words = section("## What it is", "## The public face") + "\n"
                + section("## Terms", "## Not promised");
        return words.replaceAll("(?m)^#.*$", "").replaceAll("(?m)^`[^`]*`: ", "")
                .replaceAll("\\s+", " ").trim();
    }

    private static String section(String heading, String next) throws IOException {
        String text = Files.readString(PATH);
        int first = Math.max(0, text.indexOf(heading));
        return text.substring(first, Math.max(first, text.indexOf(next)));
    }
}
