import java.io.IOException;
import java.nio.file.Files;
import java.nio.file.Path;
import java.nio.file.StandardCopyOption;
import java.util.Comparator;
import java.util.List;
import java.util.stream.Stream;

/** A directory of its own, in which a project lies as this one does: main, and shared beside it. */
final class Sandbox implements AutoCloseable {
    private final Path root;

    Sandbox() throws IOException {
        root = Files.createTempDirectory("sandbox");
        Files.createDirectories(main());
    }

    Path main() {
        return root.resolve("main");
    }

    Path root() {
        return root;
    }

    /** A file of this project, or all files of a directory of it. */
    void copy(String name) throws IOException {
        try (Stream<Path> found = Files.walk(Path.of(name))) {
            for (Path path : found.filter(Files::isRegularFile).toList()) {
                Path copy = main().resolve(path.toString());
                Files.createDirectories(copy.getParent());
                Files.copy(path, copy, StandardCopyOption.COPY_ATTRIBUTES);
            }
        }
    }

    void write(String name, String text) throws IOException {
        Path path = root.resolve(name);
        Files.createDirectories(path.getParent());
        Files.writeString(path, text);
    }

    /** A shell that goes through commands, and stops with the first that fails; its output is in the file out. */
    Process start(Path from, List<String> commands) throws IOException {
        return new ProcessBuilder("sh", "-e", "-c", String.join("\n", commands)).directory(from.toFile())
            .redirectErrorStream(true).redirectOutput(root.resolve("out").toFile()).start();
    }

    String output() throws IOException {
        return Files.readString(root.resolve("out"));
    }

    @Override
    public void close() throws IOException {
        try (Stream<Path> found = Files.walk(root)) {
            for (Path path : found.sorted(Comparator.reverseOrder()).toList()) {
                Files.delete(path);
            }
        }
    }
}
