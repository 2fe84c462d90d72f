import java.io.IOException;
import java.nio.file.Files;
import java.nio.file.Path;
import java.nio.file.attribute.PosixFilePermission;
import java.util.ArrayList;
import java.util.List;

/**
 * The command in README.md runs all tests there are, and fails if one fails. It is run in copies of
 * this folder, where in the place of each test there is a class of that name that does as it is told.
 */
public final class CiTest {
    private static final Path SCRIPT = Path.of(".ci/run");
    private static final String COMMAND = Readme.block("How to run its tests", "sh").trim();
    private static final String RAN = "ran in the place of ";
    private static final String STAND_IN = """
            public final class NAME {
                public static void main(String[] args) {
                    System.out.println("RANNAME");
                    if ("NAME".equals(System.getenv("FAILING"))) {
                        System.exit(1);
                    }
                    if ("NAME".equals(System.getenv("THROWING"))) {
                        throw new IllegalStateException();
                    }
                }
            }
            """.replace("RAN", RAN);

    private static final List<Path> own = Folders.mains(Folders.OWN_TESTS);
    private static final List<Path> shared = Folders.mains(Folders.SHARED_TESTS);

    private final String what;
    private final Path folder = Folders.fresh();
    private final Path output = folder.resolve("output");
    private Process process;

    private CiTest(String what) {
        this.what = what;
        Folders.write(place(SCRIPT), Folders.read(SCRIPT));
        place(SCRIPT).toFile().setExecutable(true);
        Folders.write(place(Folders.PROGRAM), Folders.read(Folders.PROGRAM));
        own.forEach(test -> standIn(Folders.OWN_TESTS, test));
        shared.forEach(test -> standIn(Folders.SHARED_TESTS, test));
    }

    public static void main(String[] args) throws IOException, InterruptedException {
        Check.holds("the command can be run",
                Files.getPosixFilePermissions(SCRIPT).contains(PosixFilePermission.OWNER_EXECUTE));
        Check.same("the command in README.md", SCRIPT.toString(), COMMAND);
        for (Path test : own) {
            Check.holds("README.md names " + test, Readme.page().contains("`" + name(test) + "`"));
        }
        CiTest passing = new CiTest("no test fails");
        passing.start("NONE", "");
        List<CiTest> failing = failingRuns();
        passing.end(true);
        passing.ranAll();
        for (CiTest run : failing) {
            run.end(false);
        }
        Check.end();
    }

    /** They go on beside one another: each of them takes some seconds. */
    private static List<CiTest> failingRuns() throws IOException {
        List<CiTest> runs = new ArrayList<>();
        Path[] tests = {own.get(0), own.get(own.size() - 1), shared.get(0)};
        for (Path test : tests) {
            CiTest run = new CiTest(test + " fails");
            run.start("FAILING", name(test));
            runs.add(run);
        }
        CiTest throwing = new CiTest(tests[0] + " throws");
        throwing.start("THROWING", name(tests[0]));
        runs.add(throwing);
        CiTest broken = new CiTest("a test does not compile");
        Folders.write(broken.place(Folders.SHARED_TESTS).resolve(shared.get(0)), "public class {");
        broken.start("NONE", "");
        runs.add(broken);
        CiTest missing = new CiTest("no shared tests");
        shared.forEach(test -> missing.place(Folders.SHARED_TESTS).resolve(test).toFile().delete());
        missing.start("NONE", "");
        runs.add(missing);
        return runs;
    }

    private static String name(Path test) {
        return test.getFileName().toString().replace(".java", "");
    }

    /** Where the copy of this folder has what is here; what is beside this folder is beside the copy. */
    private Path place(Path here) {
        return folder.resolve("main").resolve(here).normalize();
    }

    private void standIn(Path tests, Path test) {
        Folders.write(place(tests).resolve(test), STAND_IN.replace("NAME", name(test)));
    }

    private void start(String variable, String value) throws IOException {
        // Where new folders lie, a machine may forbid to run what is in a file.
        boolean runs = Files.isExecutable(place(SCRIPT));
        ProcessBuilder builder = new ProcessBuilder("sh", "-c", runs ? COMMAND : "sh " + COMMAND);
        builder.directory(place(Path.of("")).toFile());
        builder.redirectErrorStream(true).redirectOutput(output.toFile());
        builder.environment().put(variable, value);
        process = builder.start();
    }

    private void end(boolean due) throws InterruptedException {
        int code = process.waitFor();
        Check.holds((due ? "exit code 0, when " : "another exit code than 0, when ") + what, due == (code == 0));
    }

    private void ranAll() {
        List<Path> all = new ArrayList<>(own);
        all.addAll(shared);
        List<String> lines = Folders.read(output).lines().filter(line -> line.startsWith(RAN)).toList();
        for (Path test : all) {
            Check.answers("runs of " + test, 1, () -> lines.stream().filter((RAN + name(test))::equals).count());
        }
        Check.answers("tests that were run", all.size(), lines::size);
    }
}
