import java.lang.reflect.InvocationTargetException;
import java.net.URL;
import java.net.URLClassLoader;
import java.nio.file.Files;
import java.nio.file.Path;
import java.util.ArrayList;
import java.util.List;
import java.util.TreeSet;
import java.util.regex.Matcher;
import java.util.regex.Pattern;
import java.util.stream.Stream;

/** README.md: what it shows of the class's use answers as it says, and the tests that it names are those that there are. */
public final class ReadmeTest {
    private static final Path README = Path.of("README.md");
    private static final Path TESTS = Path.of("src/test/java");
    private static final Expect EXPECT = new Expect();

    /** A call at the start of a line, and the answer at the start of the comment behind it. */
    private static final Pattern SHOWN = Pattern.compile("(rows\\.\\w+\\(.*\\)); *// (-?\\d+)(?:: .*)?");

    public static void main(String[] args) throws Exception {
        String text = Files.readString(README);
        use(blockOf(text));
        EXPECT.holds("it names the script that runs the tests", text.contains("\n    .ci/run\n") && Files.isExecutable(Path.of(".ci/run")));
        testsAreThoseThatThereAre(text);
        oneTestAlone(text);
        EXPECT.finish();
    }

    // ---- use

    private static String blockOf(String text) {
        Matcher block = Pattern.compile("(?s)```java\n(.*?)```").matcher(text);
        return block.find() ? block.group(1) : "";
    }

    /** Compiles the block as it stands, with each call in it held against the answer behind it. */
    private static void use(String block) throws Exception {
        StringBuilder code = new StringBuilder("public final class Shown { public static void main(String[] args) {\n");
        TreeSet<String> calls = new TreeSet<>();
        for (String line : block.split("\n")) {
            Matcher shown = SHOWN.matcher(line);
            if (shown.matches()) {
                String call = shown.group(1);
                calls.add(call.replaceAll("rows\\.(\\w+).*", "$1"));
                code.append("due(\"").append(call).append("\", ").append(call).append(", ").append(shown.group(2)).append("L);\n");
            } else {
                EXPECT.holds("a call is shown with its answer: " + line, !line.startsWith("rows."));
                code.append(line).append('\n');
            }
        }
        code.append("} private static void due(String call, long got, long want) { if (got != want) ")
            .append("throw new IllegalStateException(call + \" answered \" + got + \", shown is \" + want); } }\n");
        EXPECT.due("calls of the face that are shown", calls.size(), 19);
        run(code.toString());
    }

    private static void run(String code) throws Exception {
        Path folder = Files.createTempDirectory("readme");
        Path file = Files.writeString(folder.resolve("Shown.java"), code);
        Process javac = new ProcessBuilder("javac", "-d", folder.toString(), "-cp", System.getProperty("java.class.path"), file.toString())
            .inheritIO().start();
        EXPECT.due("what is shown compiles", javac.waitFor(), 0);
        try (URLClassLoader loader = new URLClassLoader(new URL[] {folder.toUri().toURL()})) {
            loader.loadClass("Shown").getMethod("main", String[].class).invoke(null, (Object) new String[0]);
        } catch (InvocationTargetException e) {
            EXPECT.holds(e.getCause().getMessage(), false);
        }
        for (Path left : List.of(folder.resolve("Shown.class"), file, folder)) {
            Files.deleteIfExists(left);
        }
    }

    // ---- tests

    private static List<String> testsThere() throws Exception {
        try (Stream<Path> files = Files.list(TESTS)) {
            return files.map(f -> f.getFileName().toString()).filter(f -> f.endsWith("Test.java")).map(f -> f.replace(".java", "")).sorted().toList();
        }
    }

    private static void testsAreThoseThatThereAre(String text) throws Exception {
        List<String> named = new ArrayList<>();
        Matcher name = Pattern.compile("`(\\w+Test)`").matcher(text);
        while (name.find()) {
            named.add(name.group(1));
        }
        named.sort(null);
        EXPECT.holds("named are " + named + ", there are " + testsThere(), named.equals(testsThere()));
    }

    private static void oneTestAlone(String text) throws Exception {
        EXPECT.holds("it says how to compile", text.contains("\n    javac -d out src/main/java/LeaderRows.java src/test/java/*.java\n"));
        Matcher alone = Pattern.compile("\n    java -cp out (\\w+)\n").matcher(text);
        EXPECT.holds("it says how to run one test", alone.find() && testsThere().contains(alone.group(1)));
        EXPECT.holds("what that makes is not kept", Files.readString(Path.of(".gitignore")).contains("out/"));
    }
}
