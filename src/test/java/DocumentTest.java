import java.io.OutputStream;
import java.io.PrintStream;
import java.nio.file.Files;
import java.nio.file.Path;
import java.util.ArrayList;
import java.util.Arrays;
import java.util.LinkedHashMap;
import java.util.List;
import java.util.Map;
import java.util.TreeSet;
import java.util.regex.Matcher;
import java.util.regex.Pattern;
import java.util.stream.Stream;

/**
 * The tests against the document: each part of a sentence, up to its full stop, colon or semicolon,
 * is named by a test that held an answer against it, and no test names words that do not stand there.
 * The face is the document's, by the text of it.
 */
public final class DocumentTest {
    private static final Path DOCUMENT = Path.of("../shared/DOC.md");
    private static final Path CLASS = Path.of("src/main/java/LeaderRows.java");
    private static final Path TESTS = Path.of("src/test/java");
    private static final Expect EXPECT = new Expect();

    /** A stop ends a part, but not one of the two in "0 .. 11"; so does an empty line. */
    private static final Pattern END_OF_PART = Pattern.compile("(?<!\\.)[.,:;](?=\\s|$)|\n\\s*\n|$");

    public static void main(String[] args) throws Exception {
        if (!Files.exists(DOCUMENT)) {
            System.out.println("there is no " + DOCUMENT + " to hold the tests against");
            return;
        }
        String document = Files.readString(DOCUMENT);
        face(document);
        Map<String, String> sections = sections(document);
        EXPECT.holds("the document has sections", sections.size() > 20);
        promisesAreOfTheFace(document, sections);
        runTestsOfSentences();
        Map<String, boolean[]> named = named(sections);
        for (String heading : sections.keySet()) {
            eachPartIsNamed(heading, sections.get(heading), named.get(heading));
        }
        EXPECT.finish();
    }

    // ---- the face

    private static String faceOf(String document) {
        Matcher block = Pattern.compile("(?s)```java\n(.*?)```").matcher(document);
        return block.find() ? block.group(1) : "";
    }

    /** Each line of the face stands in the class, with the names of its parameters; and no other public one. */
    private static void face(String document) throws Exception {
        String text = Files.readString(CLASS);
        TreeSet<String> due = publicLines(faceOf(document));
        EXPECT.holds("the document has a face", due.size() == 22);
        TreeSet<String> got = publicLines(text);
        EXPECT.holds("the public lines are the document's: " + got, got.equals(due));
    }

    private static TreeSet<String> publicLines(String text) {
        TreeSet<String> lines = new TreeSet<>();
        Matcher m = Pattern.compile("(?m)^ *(public [^{;]*)").matcher(text);
        while (m.find()) {
            lines.add(m.group(1).trim());
        }
        return lines;
    }

    private static void promisesAreOfTheFace(String document, Map<String, String> sections) {
        int promises = 0;
        for (String heading : sections.keySet()) {
            if (heading.startsWith("Promise ")) {
                promises++;
                Matcher call = Pattern.compile("^`([^`]*)`: ").matcher(sections.get(heading));
                EXPECT.holds(heading + " begins with its call", call.find());
                EXPECT.holds(call.group(1) + " is of the face", faceOf(document).contains("public " + call.group(1) + ";"));
            }
        }
        EXPECT.due("promises", promises, 20);
    }

    // ---- the sentences

    /** Sections by heading, without the face and the marks of text blocks. */
    private static Map<String, String> sections(String document) {
        String text = document.replaceAll("(?s)```java\n.*?```", "").replace("```text", "").replace("```", "");
        Map<String, String> sections = new LinkedHashMap<>();
        String[] cut = text.split("(?m)^## ");
        for (int i = 1; i < cut.length; i++) {
            int end = cut[i].indexOf('\n');
            sections.put(end < 0 ? cut[i] : cut[i].substring(0, end), end < 0 ? "" : cut[i].substring(end).trim());
        }
        return sections;
    }

    /** Their own runs tell what fails; here they only have to tell what they hold. */
    private static void runTestsOfSentences() throws Exception {
        PrintStream out = System.out;
        for (String name : testsOfSentences()) {
            System.setOut(new PrintStream(OutputStream.nullOutputStream()));
            Class.forName(name).getMethod("main", String[].class).invoke(null, (Object) new String[0]);
            System.setOut(out);
        }
        EXPECT.holds("sentences were held", Expect.held().size() > 100);
    }

    private static List<String> testsOfSentences() throws Exception {
        List<String> names = new ArrayList<>();
        try (Stream<Path> files = Files.list(TESTS)) {
            for (Path file : (Iterable<Path>) files.sorted()::iterator) {
                String name = file.getFileName().toString().replace(".java", "");
                if (name.endsWith("Test") && !name.equals("DocumentTest") && Files.readString(file).contains("EXPECT.sentence(")) {
                    names.add(name);
                }
            }
        }
        return names;
    }

    /** Which letters of each section stand in words that a test names. */
    private static Map<String, boolean[]> named(Map<String, String> sections) {
        Map<String, boolean[]> named = new LinkedHashMap<>();
        for (String heading : sections.keySet()) {
            named.put(heading, new boolean[sections.get(heading).length()]);
        }
        for (Expect.Sentence sentence : Expect.held().keySet()) {
            int places = mark(sentence, sections, named, true);
            if (places == 0) {
                places = mark(sentence, sections, named, false);
            }
            EXPECT.holds("the document says \"" + sentence.words() + "\", " + sentence.where(), places > 0);
        }
        return named;
    }

    /** In the section that the test names (there), or else in another one. */
    private static int mark(Expect.Sentence sentence, Map<String, String> sections, Map<String, boolean[]> named, boolean there) {
        String words = sentence.words();
        int places = 0;
        for (String heading : sections.keySet()) {
            if ((heading + ":").startsWith(sentence.where() + ":") != there) {
                continue;
            }
            places += heading.contains(words) ? 1 : 0;
            String text = sections.get(heading);
            for (int at = text.indexOf(words); at >= 0; at = text.indexOf(words, at + 1)) {
                places++;
                Arrays.fill(named.get(heading), at, at + words.length(), true);
            }
        }
        return places;
    }

    private static void eachPartIsNamed(String heading, String text, boolean[] named) {
        // The call that a promise begins with is held against the face.
        int from = text.startsWith("`") ? text.indexOf("`", 1) + 2 : 0;
        Matcher end = END_OF_PART.matcher(text).region(from, text.length());
        while (end.find()) {
            String part = text.substring(from, end.start()).trim();
            EXPECT.holds(heading + ": a test names \"" + part + "\"", part.isEmpty() || anyOf(named, from, end.start()));
            from = end.end();
        }
    }

    private static boolean anyOf(boolean[] named, int from, int to) {
        for (int i = from; i < to; i++) {
            if (named[i]) {
                return true;
            }
        }
        return false;
    }
}
