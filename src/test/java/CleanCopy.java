import java.io.IOException;
import java.nio.file.Files;
import java.nio.file.Path;
import java.nio.file.StandardCopyOption;
import java.util.ArrayList;
import java.util.Collections;
import java.util.List;
import java.util.stream.Stream;

/**
 * A checkout of the project in a folder of its own, with the shared folder beside it, as a clean
 * checkout has it. It has the script, the class and few tests only, so that a run takes little time
 * and never begins another copy.
 */
final class CleanCopy {
    private static final String[] COPIED = {
        ".ci/run", "README.md", "src/main/java/WidthMinimizer.java", "src/test/java/ExamplesTest.java",
        "src/test/java/Script.java", "src/test/java/Call.java", "src/test/java/Probe.java",
    };
    private static final String SHARED_TEST = """
            public final class SharedRuns {
                public static void main(String[] args) {
                    System.exit(new WidthMinimizer().count() == 0 ? 0 : 1);
                }
            }
            """;

    private final Path folder;
    private String output = "";

    private CleanCopy(Path folder) {
        this.folder = folder;
    }

    static CleanCopy make() throws IOException {
        CleanCopy copy = new CleanCopy(Files.createTempDirectory("checkout"));
        for (String name : COPIED) {
            Path target = copy.folder.resolve("main").resolve(name);
            Files.createDirectories(target.getParent());
            Files.copy(Path.of(name), target, StandardCopyOption.COPY_ATTRIBUTES);
        }
        copy.write("shared/tests/SharedRuns.java", SHARED_TEST);
        return copy;
    }

    void write(String name, String text) throws IOException {
        Path target = folder.resolve(name);
        Files.createDirectories(target.getParent());
        Files.writeString(target, text);
    }

    void remove(String name) throws IOException {
        List<Path> below = new ArrayList<>();
        try (Stream<Path> all = Files.walk(folder.resolve(name))) {
            all.forEach(below::add);
        }
        Collections.reverse(below);
        for (Path path : below) {
            Files.delete(path);
        }
    }

    /** Runs commands in the checkout and returns the exit code. */
    int run(String commands) throws IOException, InterruptedException {
        Process process = new ProcessBuilder("sh", "-e", "-c", commands)
                .directory(folder.resolve("main").toFile()).redirectErrorStream(true).start();
        output = new String(process.getInputStream().readAllBytes());
        return process.waitFor();
    }

    /** What the latest commands printed. */
    String printed() {
        return output;
    }

    void delete() throws IOException {
        remove("");
    }
}
