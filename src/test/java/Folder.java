import java.io.IOException;
import java.nio.charset.StandardCharsets;
import java.nio.file.Files;
import java.nio.file.Path;
import java.util.List;
import java.util.stream.Stream;

/** A folder for one test, taken away at its end, in which commands are run as a reader would run them. */
final class Folder implements AutoCloseable {
    final Path path;

    /** What a command printed, both ways out in one, and the code it ended with. */
    record Outcome(int code, String printed) {
    }

    Folder() throws IOException {
        path = Files.createTempDirectory("goldheaps");
    }

    void write(String name, String text) throws IOException {
        Path file = path.resolve(name);
        Files.createDirectories(file.getParent());
        Files.writeString(file, text);
    }

    /** A file or a whole folder of the project, under its own name in the given part of this one. */
    void copy(String name, String part) throws IOException {
        for (Path file : filesUnder(Path.of(name))) {
            Path target = path.resolve(part).resolve(file.toString());
            Files.createDirectories(target.getParent());
            Files.copy(file, target);
            // What may be run stays so.
            target.toFile().setExecutable(Files.isExecutable(file));
        }
    }

    Outcome run(String part, String commands) throws IOException, InterruptedException {
        Process process = new ProcessBuilder("bash", "-e", "-c", commands)
            .directory(path.resolve(part).toFile()).redirectErrorStream(true).start();
        process.getOutputStream().close();
        String printed = new String(process.getInputStream().readAllBytes(), StandardCharsets.UTF_8);
        return new Outcome(process.waitFor(), printed);
    }

    @Override
    public void close() throws IOException {
        List<Path> all;
        try (Stream<Path> walk = Files.walk(path)) {
            all = walk.toList();
        }
        for (int i = all.size() - 1; i >= 0; i--) Files.delete(all.get(i));
    }

    static List<Path> filesUnder(Path start) throws IOException {
        try (Stream<Path> walk = Files.walk(start)) {
            return walk.filter(Files::isRegularFile).sorted().toList();
        }
    }
}
