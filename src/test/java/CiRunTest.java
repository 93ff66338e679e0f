import java.io.IOException;
import java.nio.file.Files;
import java.nio.file.Path;
import java.util.Comparator;
import java.util.List;
import java.util.concurrent.TimeUnit;
import java.util.stream.Stream;

/** .ci/run, in a small project of its own: it runs each test, also those under ../shared/tests, and fails if one fails. */
public final class CiRunTest {
    private static final String CLASS = "src/main/java/LeaderRows.java";
    private static final Expect EXPECT = new Expect();

    public static void main(String[] args) throws Exception {
        String passes = "System.exit(new LeaderRows().told(0));";
        dueExit("all pass", true, passes, passes);
        dueExit("a test of the project fails", false, "System.exit(1);", passes);
        dueExit("a test of the project throws", false, "System.exit(1 / new LeaderRows().told(0));", passes);
        dueExit("a test of the project does not compile", false, "nonsense", passes);
        dueExit("a test under shared fails", false, passes, "System.exit(1);");
        dueExit("a test under shared does not compile", false, passes, "nonsense");
        dueExit("there is none under shared", false, passes, null);
        EXPECT.finish();
    }

    private static void dueExit(String what, boolean passes, String own, String given) throws Exception {
        Path folder = Files.createTempDirectory("ci");
        try {
            Path project = Files.createDirectories(folder.resolve("project"));
            copy(Path.of(".ci/run"), project.resolve(".ci/run"));
            copy(Path.of(CLASS), project.resolve(CLASS));
            write(project.resolve("src/test/java/OwnTest.java"), "OwnTest", own);
            write(folder.resolve("shared/tests/deep/Given.java"), "Given", given);
            int exit = exitOf(project, folder.resolve("told"));
            EXPECT.holds(what + ": .ci/run ends with " + exit, passes == (exit == 0));
            String told = Files.readString(folder.resolve("told"));
            EXPECT.holds(what + ": both were run", !passes || told.contains("OwnTest") && told.contains("Given"));
        } finally {
            delete(folder);
        }
    }

    private static void copy(Path from, Path to) throws IOException {
        Files.createDirectories(to.getParent());
        Files.copy(from, to);
    }

    private static void write(Path file, String name, String body) throws IOException {
        Files.createDirectories(file.getParent());
        if (body != null) {
            Files.writeString(file, "public final class " + name + " { public static void main(String[] args) { " + body + " } }\n");
        }
    }

    /** From another folder than the project's own, since the script must find that by itself. */
    private static int exitOf(Path project, Path told) throws Exception {
        Process run = new ProcessBuilder("bash", project.resolve(".ci/run").toString()).directory(project.getParent().toFile())
            .redirectErrorStream(true).redirectOutput(told.toFile()).start();
        if (!run.waitFor(5, TimeUnit.MINUTES)) {
            run.destroyForcibly();
            return -1;
        }
        return run.exitValue();
    }

    private static void delete(Path folder) throws IOException {
        List<Path> all;
        try (Stream<Path> walk = Files.walk(folder)) {
            all = walk.sorted(Comparator.reverseOrder()).toList();
        }
        for (Path path : all) {
            Files.delete(path);
        }
    }
}
