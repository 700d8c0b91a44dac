import java.io.IOException;
import java.nio.file.Files;
import java.nio.file.Path;
import java.util.Comparator;
import java.util.List;
import java.util.stream.Collectors;
import java.util.stream.Stream;

/** A clean copy of the project in a folder of its own, with a ../shared beside it. */
final class Checkout {
    /** Set in all that is run in a copy, so that a copy's tests don't make copies again. */
    private static final String INSIDE = "TINSTATION_CHECKOUT";

    private final Path root = Files.createTempDirectory("checkout");
    private final Path project = root.resolve("main");
    private Process running;

    Checkout() throws IOException {
        Files.createDirectories(project);
    }

    static boolean isInside() {
        return System.getenv(INSIDE) != null;
    }

    /** A file, or a folder with all that is in it. */
    Checkout copy(String name) throws IOException {
        for (Path from : under(Path.of(name))) {
            Path to = project.resolve(from.toString());
            Files.createDirectories(to.getParent());
            if (Files.isRegularFile(from)) {
                Files.copy(from, to, java.nio.file.StandardCopyOption.COPY_ATTRIBUTES);
            }
        }
        return this;
    }

    Checkout put(String name, String text) throws IOException {
        Path to = project.resolve(name).normalize();
        Files.createDirectories(to.getParent());
        Files.writeString(to, text);
        return this;
    }

    Checkout linkShared() throws IOException {
        Files.createSymbolicLink(root.resolve("shared"), Path.of("../shared").toRealPath());
        return this;
    }

    void start(String command) throws IOException {
        ProcessBuilder b = new ProcessBuilder("bash", "-c", command).directory(project.toFile());
        b.environment().put(INSIDE, "yes");
        b.redirectErrorStream(true).redirectOutput(root.resolve("printed").toFile());
        running = b.start();
    }

    int exitCode() throws InterruptedException {
        return running.waitFor();
    }

    String printed() throws IOException {
        return Files.readString(root.resolve("printed"));
    }

    void remove() throws IOException {
        List<Path> all = under(root);
        all.sort(Comparator.reverseOrder());
        for (Path p : all) {
            Files.delete(p);
        }
    }

    private static List<Path> under(Path top) throws IOException {
        try (Stream<Path> all = Files.walk(top)) {
            return all.collect(Collectors.toList());
        }
    }
}
