import java.lang.reflect.Constructor;
import java.lang.reflect.Field;
import java.lang.reflect.Method;
import java.lang.reflect.Modifier;
import java.nio.file.Files;
import java.nio.file.Path;
import java.util.Arrays;
import java.util.Set;
import java.util.TreeSet;
import java.util.regex.Matcher;
import java.util.regex.Pattern;

/** The class's face, and those rules of LANGUAGE.md that a program can look after. */
public final class RulesTest {
    private static final Path SOURCE = Path.of("src/main/java/LeaderRows.java");
    private static final Expect EXPECT = new Expect();
    private static final String[] FACE = {
        "int begin()", "int check()", "int choices()", "int claim(int)", "int commit(int,long)", "int draw(int)",
        "int drawn(int)", "int leader(int)", "int node(int,int)", "int open(int,long)", "int opening()", "int term(int,int)",
        "int told(int)", "int turn(boolean)", "int weight(int,int)", "int would(int,long,boolean,int)",
        "long amount(int)", "long deposit(int,long)", "long digest(int,long)"};
    private static final String[] FORBIDDEN = {
        "throw", "throws", "try", "catch", "finally", "synchronized", "assert", "import", "package", "volatile", "native",
        "protected", "double", "float", "Object", "Exact", "System", "Thread", "Random", "equals", "hashCode", "toString", "var"};

    public static void main(String[] args) throws Exception {
        face();
        for (Class<?> inside : LeaderRows.class.getDeclaredClasses()) {
            insideClass(inside);
        }
        EXPECT.holds("at most twelve classes", LeaderRows.class.getDeclaredClasses().length <= 11);
        classSize(LeaderRows.class);
        String code = withoutComments(Files.readString(SOURCE));
        words(code);
        methodLengths(code);
        EXPECT.finish();
    }

    private static String signature(Method m) {
        StringBuilder text = new StringBuilder(m.getReturnType().getSimpleName()).append(' ').append(m.getName()).append('(');
        for (Class<?> type : m.getParameterTypes()) {
            text.append(text.charAt(text.length() - 1) == '(' ? "" : ",").append(type.getSimpleName());
        }
        return text.append(')').toString();
    }

    private static void face() throws Exception {
        int modifiers = LeaderRows.class.getModifiers();
        EXPECT.holds("the class is public and final", Modifier.isPublic(modifiers) && Modifier.isFinal(modifiers));
        Set<String> shown = new TreeSet<>();
        Set<String> names = new TreeSet<>();
        for (Method m : LeaderRows.class.getDeclaredMethods()) {
            if (!Modifier.isPrivate(m.getModifiers())) {
                EXPECT.holds(m + " is public", Modifier.isPublic(m.getModifiers()) && !Modifier.isStatic(m.getModifiers()));
                shown.add(signature(m));
                names.add(m.getName());
            }
        }
        EXPECT.holds("the methods are the document's: " + shown, shown.equals(new TreeSet<>(Arrays.asList(FACE))));
        for (Method m : LeaderRows.class.getDeclaredMethods()) {
            EXPECT.holds(m + " has a name of its own", !Modifier.isPrivate(m.getModifiers()) || !names.contains(m.getName()));
        }
        Constructor<?>[] makers = LeaderRows.class.getDeclaredConstructors();
        EXPECT.holds("one public constructor without arguments",
            makers.length == 1 && makers[0].getParameterCount() == 0 && Modifier.isPublic(makers[0].getModifiers()));
        Set<String> constants = new TreeSet<>();
        for (Field f : LeaderRows.class.getDeclaredFields()) {
            if (!Modifier.isPrivate(f.getModifiers())) {
                EXPECT.holds(f + " is a constant", Modifier.isPublic(f.getModifiers()) && Modifier.isStatic(f.getModifiers())
                    && Modifier.isFinal(f.getModifiers()) && f.getType() == int.class);
                constants.add(f.getName() + " " + f.getInt(null));
            }
        }
        EXPECT.holds("the constants are the document's: " + constants, constants.equals(Set.of("BAD -1", "NONE -2", "NOT -3")));
    }

    private static void insideClass(Class<?> inside) {
        int modifiers = inside.getModifiers();
        EXPECT.holds(inside + " is static", Modifier.isStatic(modifiers));
        EXPECT.holds(inside + " is not shown", !Modifier.isPublic(modifiers) && !Modifier.isProtected(modifiers));
        classSize(inside);
    }

    private static void classSize(Class<?> c) {
        int fields = 0;
        for (Field f : c.getDeclaredFields()) {
            fields += Modifier.isStatic(f.getModifiers()) ? 0 : 1;
            EXPECT.holds(f + " is final if static", !Modifier.isStatic(f.getModifiers()) || Modifier.isFinal(f.getModifiers()));
        }
        EXPECT.holds(c + " has at most twenty fields", fields <= 20);
        for (Method m : c.getDeclaredMethods()) {
            EXPECT.holds(m + " takes at most seven", m.getParameterCount() <= 7);
        }
    }

    private static String withoutComments(String text) {
        return text.replaceAll("(?s)/\\*.*?\\*/", "").replaceAll("//[^\n]*", "");
    }

    private static void words(String code) {
        for (String word : FORBIDDEN) {
            EXPECT.holds("no " + word, !Pattern.compile("\\b" + word + "\\b").matcher(code).find());
        }
        EXPECT.holds("no lambda, no method reference", !code.contains("->") && !code.contains("::"));
        EXPECT.holds("no text", code.indexOf('"') < 0);
        EXPECT.holds("characters 0 to 255 alone", code.chars().allMatch(c -> c < 256));
        Matcher library = Pattern.compile("\\b(?:Math|Long|Integer|Arrays)\\.(\\w+)").matcher(code);
        while (library.find()) {
            EXPECT.holds(library.group() + " is allowed", !library.group(1).endsWith("Exact"));
        }
        Matcher made = Pattern.compile("\\bnew (\\w+)").matcher(code);
        while (made.find()) {
            EXPECT.holds("new " + made.group(1), Set.of("int", "Node", "Electors", "Row").contains(made.group(1)));
        }
    }

    private static void methodLengths(String code) {
        String[] lines = code.split("\n");
        Pattern head = Pattern.compile("^( {4}| {8})(?! )[\\w\\[\\]. ]+\\([^;]*\\) \\{$");
        int methods = 0;
        for (int i = 0; i < lines.length; i++) {
            Matcher m = head.matcher(lines[i]);
            if (m.find() && !lines[i].matches(" +(if|for|while|switch|else|\\}).*")) {
                int end = i;
                while (end < lines.length && !lines[end].equals(m.group(1) + "}")) {
                    end++;
                }
                methods++;
                EXPECT.holds("short: " + lines[i].trim(), end - i < 60);
            }
        }
        EXPECT.holds("methods were found: " + methods, methods > FACE.length);
    }
}
