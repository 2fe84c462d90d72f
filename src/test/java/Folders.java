import java.io.IOException;
import java.nio.file.Files;
import java.nio.file.Path;
import java.util.ArrayList;
import java.util.Comparator;
import java.util.List;
import java.util.regex.Pattern;
import java.util.stream.Stream;

/** Files of this project, and new folders that go when the test ends. */
final class Folders {
    static final Path PROGRAM = Path.of("src/main/java/GuardedGrammar.java");
    static final Path OWN_TESTS = Path.of("src/test/java");
    static final Path SHARED_TESTS = Path.of("../shared/tests");

    private static final Pattern MAIN = Pattern.compile("(?m)^ *public static void main\\(");

    private Folders() {
    }

    static String read(Path file) {
        try {
            return Files.readString(file);
        } catch (IOException e) {
            throw new AssertionError(e);
        }
    }

    static void write(Path file, String text) {
        try {
            Files.createDirectories(file.getParent());
            Files.writeString(file, text);
        } catch (IOException e) {
            throw new AssertionError(e);
        }
    }

    /** The files of a folder and of those in it that have a main method, as they are named there. */
    static List<Path> mains(Path folder) {
        List<Path> found = new ArrayList<>();
        for (Path file : all(folder)) {
            if (file.toString().endsWith(".java") && MAIN.matcher(read(file)).find()) {
                found.add(folder.relativize(file));
            }
        }
        return found;
    }

    static Path fresh() {
        try {
            Path folder = Files.createTempDirectory("guarded");
            Runtime.getRuntime().addShutdownHook(new Thread(() -> remove(folder)));
            return folder;
        } catch (IOException e) {
            throw new AssertionError(e);
        }
    }

    private static List<Path> all(Path folder) {
        try (Stream<Path> files = Files.walk(folder)) {
            return files.sorted().toList();
        } catch (IOException e) {
            throw new AssertionError(e);
        }
    }

    private static void remove(Path folder) {
        for (Path file : all(folder).stream().sorted(Comparator.reverseOrder()).toList()) {
            file.toFile().delete();
        }
    }
}
