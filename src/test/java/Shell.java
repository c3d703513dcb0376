import java.io.IOException;
import java.io.UncheckedIOException;
import java.nio.charset.StandardCharsets;
import java.nio.file.Files;
import java.nio.file.Path;
import java.util.Comparator;
import java.util.List;
import java.util.stream.Stream;

/** Commands in folders made for one test, as what README.md says of commands can't be looked at otherwise. */
final class Shell {
    private Shell() {
    }

    /** How a command ended and what it printed, errors among it. */
    record Ending(int code, String printed) {
    }

    static Ending run(Path folder, String command) {
        try {
            Process process = new ProcessBuilder("bash", "-c", command).directory(folder.toFile())
                    .redirectErrorStream(true).start();
            process.getOutputStream().close();
            String printed = new String(process.getInputStream().readAllBytes(), StandardCharsets.UTF_8);
            return new Ending(process.waitFor(), printed);
        } catch (IOException broken) {
            throw new UncheckedIOException(broken);
        } catch (InterruptedException stopped) {
            throw new IllegalStateException(stopped);
        }
    }

    static void write(Path file, String text) {
        try {
            Files.createDirectories(file.getParent());
            Files.writeString(file, text);
        } catch (IOException broken) {
            throw new UncheckedIOException(broken);
        }
    }

    static String read(Path file) {
        try {
            return Files.readString(file);
        } catch (IOException broken) {
            throw new UncheckedIOException(broken);
        }
    }

    static List<Path> filesIn(Path folder) {
        try (Stream<Path> files = Files.list(folder)) {
            return files.sorted().toList();
        } catch (IOException broken) {
            throw new UncheckedIOException(broken);
        }
    }

    static Path newFolder() {
        try {
            return Files.createTempDirectory("desk");
        } catch (IOException broken) {
            throw new UncheckedIOException(broken);
        }
    }

    static void remove(Path folder) {
        try (Stream<Path> inside = Files.walk(folder)) {
            for (Path path : inside.sorted(Comparator.reverseOrder()).toList()) {
                Files.delete(path);
            }
        } catch (IOException broken) {
            throw new UncheckedIOException(broken);
        }
    }
}
