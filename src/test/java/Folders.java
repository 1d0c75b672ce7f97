import java.io.IOException;
import java.nio.file.Files;
import java.nio.file.Path;
import java.util.Comparator;
import java.util.List;
import java.util.stream.Stream;

/** Folders that a test makes for itself. */
final class Folders {
    private Folders() {
    }

    static void write(Path file, String text) throws IOException {
        Files.createDirectories(file.getParent());
        Files.writeString(file, text);
    }

    static void remove(Path folder) throws IOException {
        List<Path> deepestFirst;
        try (Stream<Path> paths = Files.walk(folder)) {
            deepestFirst = paths.sorted(Comparator.reverseOrder()).toList();
        }
        for (Path path : deepestFirst) {
            Files.delete(path);
        }
    }
}
