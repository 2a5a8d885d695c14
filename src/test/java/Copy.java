import java.io.IOException;
import java.io.UncheckedIOException;
import java.nio.charset.StandardCharsets;
import java.nio.file.Files;
import java.nio.file.Path;
import java.nio.file.StandardCopyOption;
import java.util.Comparator;
import java.util.List;
import java.util.stream.Stream;

/**
 * A copy of the project in a directory of its own, to run commands in: the class, .ci/run, README.md, what the tests
 * share, the tests that are named, and what is under ../shared/tests.
 */
final class Copy {
    private static final List<String> SHARED_BY_TESTS = List.of("Due.java", "Made.java");

    private final Path place;
    private final Path root;

    Copy(String... tests) {
        try {
            place = Files.createTempDirectory("gongcircle");
            root = place.resolve("main");
            take(".ci/run");
            take("README.md");
            take("src/main/java/GongCircle.java");
            for (String name : SHARED_BY_TESTS) {
                take("src/test/java/" + name);
            }
            for (String test : tests) {
                take("src/test/java/" + test + ".java");
            }
            for (String test : sharedTests()) {
                take(test);
            }
        } catch (IOException e) {
            throw new UncheckedIOException(e);
        }
    }

    static List<String> sharedTests() {
        try (Stream<Path> shared = Files.list(Path.of("../shared/tests"))) {
            return shared.map(Path::toString).filter(name -> name.endsWith(".java")).sorted().toList();
        } catch (IOException e) {
            throw new UncheckedIOException(e);
        }
    }

    private void take(String name) throws IOException {
        Path to = root.resolve(name).normalize();
        Files.createDirectories(to.getParent());
        Files.copy(Path.of(name), to, StandardCopyOption.COPY_ATTRIBUTES);
    }

    void put(String name, String text) {
        try {
            Files.writeString(root.resolve(name).normalize(), text);
        } catch (IOException e) {
            throw new UncheckedIOException(e);
        }
    }

    void drop(String name) {
        try {
            Files.delete(root.resolve(name).normalize());
        } catch (IOException e) {
            throw new UncheckedIOException(e);
        }
    }

    /** Runs commands in the copy, as a shell does that ends with the first one that fails; tells all that they print. */
    Ended run(String commands) {
        try {
            Process process = new ProcessBuilder("sh", "-e", "-c", commands)
                    .directory(root.toFile()).redirectErrorStream(true).start();
            process.getOutputStream().close();
            String printed = new String(process.getInputStream().readAllBytes(), StandardCharsets.UTF_8);
            return new Ended(process.waitFor(), printed);
        } catch (IOException e) {
            throw new UncheckedIOException(e);
        } catch (InterruptedException e) {
            throw new IllegalStateException(e);
        }
    }

    record Ended(int code, String printed) {
    }

    void remove() {
        try (Stream<Path> all = Files.walk(place)) {
            for (Path one : all.sorted(Comparator.reverseOrder()).toList()) {
                Files.delete(one);
            }
        } catch (IOException e) {
            throw new UncheckedIOException(e);
        }
    }
}
