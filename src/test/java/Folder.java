import java.io.IOException;
import java.nio.file.Files;
import java.nio.file.Path;
import java.util.Comparator;
import java.util.List;
import java.util.stream.Stream;

/** A folder that is gone again when it is shut. */
final class Folder implements AutoCloseable {
    private final Path root;

    Folder() throws IOException {
        root = Files.createTempDirectory("racewatch");
    }

    Path path(String name) {
        return root.resolve(name);
    }

    Path write(String name, String text) throws IOException {
        Path file = path(name);
        Files.createDirectories(file.getParent());
        return Files.writeString(file, text);
    }

    @Override
    public void close() throws IOException {
        List<Path> deepestFirst;
        try (Stream<Path> all = Files.walk(root)) {
            deepestFirst = all.sorted(Comparator.reverseOrder()).toList();
        }
        for (Path path : deepestFirst) {
            Files.delete(path);
        }
    }
}
