import java.io.IOException;
import java.nio.file.FileVisitOption;
import java.nio.file.Files;
import java.nio.file.Path;
import java.nio.file.StandardCopyOption;
import java.util.Comparator;
import java.util.List;
import java.util.concurrent.TimeUnit;
import java.util.stream.Stream;

/** A command that was run in a directory: its exit code and what it printed. */
final class Shell {
    private static final int MOST_MINUTES = 5;

    final int exit;
    final List<String> lines;

    private Shell(int exit, List<String> lines) {
        this.exit = exit;
        this.lines = lines;
    }

    /** Runs commands, a line each, up to the first that fails. */
    static Shell run(Path directory, String commands) throws IOException, InterruptedException {
        Path printed = Files.createTempFile("printed", ".txt");
        try {
            // What goes to the standard error is left out: a machine may have words of its own to say there.
            Process process = new ProcessBuilder("bash", "-e", "-c", commands)
                .directory(directory.toFile())
                .redirectOutput(printed.toFile())
                .redirectError(ProcessBuilder.Redirect.DISCARD)
                .start();
            process.getOutputStream().close();
            if (!process.waitFor(MOST_MINUTES, TimeUnit.MINUTES)) {
                process.descendants().forEach(ProcessHandle::destroyForcibly);
                process.destroyForcibly().waitFor();
                return new Shell(-1, List.of("it did not end"));
            }
            return new Shell(process.exitValue(), Files.readAllLines(printed));
        } finally {
            Files.delete(printed);
        }
    }

    String lastLine() {
        return lines.isEmpty() ? "" : lines.get(lines.size() - 1);
    }

    /** Copies a file, or a directory with all that it holds; a file stays executable if it was. */
    static void copy(Path from, Path to) throws IOException {
        try (Stream<Path> files = Files.walk(from, FileVisitOption.FOLLOW_LINKS)) {
            for (Path file : (Iterable<Path>) files::iterator) {
                Path copy = to.resolve(from.relativize(file).toString());
                if (Files.isDirectory(file)) {
                    Files.createDirectories(copy);
                } else {
                    Files.createDirectories(copy.getParent());
                    Files.copy(file, copy, StandardCopyOption.COPY_ATTRIBUTES);
                }
            }
        }
    }

    static void delete(Path directory) throws IOException {
        try (Stream<Path> files = Files.walk(directory)) {
            for (Path file : files.sorted(Comparator.reverseOrder()).toList()) {
                Files.delete(file);
            }
        }
    }
}
