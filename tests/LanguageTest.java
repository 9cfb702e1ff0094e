import java.io.IOException;
import java.lang.reflect.Constructor;
import java.lang.reflect.Field;
import java.lang.reflect.Method;
import java.lang.reflect.Modifier;
import java.nio.file.Files;
import java.nio.file.Path;
import java.util.Arrays;
import java.util.HashSet;
import java.util.Set;
import java.util.TreeSet;
import java.util.regex.Matcher;
import java.util.regex.Pattern;

/** Rules of LANGUAGE.md that can be seen in the text of the class, or in its members. */
public final class LanguageTest {
    private static final String[] FORBIDDEN = {
        "\\bimport\\b", "\\bpackage\\b", "->", "::", "\\bthrow\\b", "\\btry\\b", "\\bcatch\\b", "\\bfinally\\b",
        "\\bsynchronized\\b", "\\bassert\\b", "\\bstatic\\s*\\{", "\\bwhile\\b", "\\bdo\\b", "\\bSystem\\b",
        "\\bThread\\b", "Exact\\b", "\\bprotected\\b", "\\bvar\\b", "\\bequals\\b", "\\bhashCode\\b", "\\btoString\\b"
    };
    private static final Checks checks = new Checks();

    public static void main(String[] args) throws IOException {
        String whole = Files.readString(Path.of("src/main/java/LeapBoard.java"));
        String code = whole.replaceAll("(?s)/\\*.*?\\*/", "").replaceAll("//[^\n]*", "").replaceAll("\"[^\"]*\"", "\"\"");
        checks.about("LANGUAGE.md");
        for (String pattern : FORBIDDEN) {
            checks.due("how often there is " + pattern, howOften(code, pattern), 0);
        }
        face();
        for (Class<?> inside : LeapBoard.class.getDeclaredClasses()) {
            checks.due(inside + " is static", Modifier.isStatic(inside.getModifiers()) ? 1 : 0, 1);
            checks.due(inside + " is private", Modifier.isPrivate(inside.getModifiers()) ? 1 : 0, 1);
            members(inside);
        }
        members(LeapBoard.class);
        checks.due("a dozen classes at most", LeapBoard.class.getDeclaredClasses().length <= 11 ? 1 : 0, 1);
        methodLengths(code);
        newOnlyInFields(code);
        checks.end();
    }

    private static int howOften(String code, String pattern) {
        Matcher found = Pattern.compile(pattern).matcher(code);
        int times = 0;
        while (found.find()) {
            times++;
        }
        return times;
    }

    /** The public members are those of the document's code block, and there are none but private ones beside. */
    private static void face() throws IOException {
        String doc = Files.readString(Path.of("../shared/DOC.md"));
        String block = doc.substring(doc.indexOf("```java"), doc.indexOf("```\n", doc.indexOf("```java") + 7));
        Set<String> due = new TreeSet<>();
        Matcher method = Pattern.compile("public (int|long) (\\w+)\\(([^)]*)\\);").matcher(block);
        while (method.find()) {
            String types = method.group(3).replaceAll("(int|boolean|long) \\w+", "$1").replace(" ", "");
            due.add(method.group(1) + " " + method.group(2) + "(" + types + ")");
        }
        Set<String> got = new TreeSet<>();
        for (Method m : LeapBoard.class.getDeclaredMethods()) {
            if (!Modifier.isPrivate(m.getModifiers()) && !m.isSynthetic()) {
                String types = String.join(",", Arrays.stream(m.getParameterTypes()).map(Class::getName).toList());
                got.add(m.getReturnType().getName() + " " + m.getName() + "(" + types + ")");
                checks.due(m + " is public", Modifier.isPublic(m.getModifiers()) ? 1 : 0, 1);
            }
        }
        System.out.println("the face: " + got);
        checks.due("the methods are those of the document", got.equals(due) && got.size() == 24 ? 1 : 0, 1);
        Set<String> fields = new HashSet<>();
        for (Field f : LeapBoard.class.getDeclaredFields()) {
            if (!Modifier.isPrivate(f.getModifiers())) {
                fields.add(f.getName());
                checks.due(f + " is public", Modifier.isPublic(f.getModifiers()) ? 1 : 0, 1);
            }
        }
        Set<String> constants = Set.of("NONE", "UNKNOWN", "OUTSIDE", "STATE", "FULL");
        checks.due("the constants are those of the document", fields.equals(constants) ? 1 : 0, 1);
        Constructor<?>[] made = LeapBoard.class.getDeclaredConstructors();
        boolean isOne = made.length == 1 && Modifier.isPublic(made[0].getModifiers()) && made[0].getParameterCount() == 0;
        checks.due("one public constructor", isOne ? 1 : 0, 1);
        checks.due("final", Modifier.isFinal(LeapBoard.class.getModifiers()) ? 1 : 0, 1);
    }

    private static void members(Class<?> in) {
        int fields = 0;
        for (Field f : in.getDeclaredFields()) {
            if (Modifier.isStatic(f.getModifiers())) {
                checks.due(f + " is final", Modifier.isFinal(f.getModifiers()) ? 1 : 0, 1);
            } else {
                fields++;
            }
        }
        checks.due(in + " has some twenty fields at most", fields <= 20 ? 1 : 0, 1);
        Set<String> names = new HashSet<>();
        for (Method m : LeapBoard.class.getDeclaredMethods()) {
            if (Modifier.isPublic(m.getModifiers())) {
                names.add(m.getName());
            }
        }
        for (Method m : in.getDeclaredMethods()) {
            checks.due(m + " has seven parameters at most", m.getParameterCount() <= 7 ? 1 : 0, 1);
            if (!Modifier.isPublic(m.getModifiers())) {
                checks.due(m + " bears the name of a public one", names.contains(m.getName()) ? 1 : 0, 0);
            }
        }
    }

    private static void methodLengths(String code) {
        int from = 0;
        String[] lines = code.split("\n");
        for (int i = 0; i < lines.length; i++) {
            if (lines[i].matches("\\s+[\\w\\[\\] ]+\\([^;=]*\\) \\{")) {
                from = i;
            }
            if (lines[i].matches("( {4}| {8})\\}")) {
                checks.due("some sixty lines at most, up to line " + i + " of the code", i - from <= 60 || lines[from].isBlank() ? 1 : 0, 1);
            }
        }
    }

    /** Rows and objects are made with the object alone, so that no call adds to the room. */
    private static void newOnlyInFields(String code) {
        for (String line : code.split("\n")) {
            if (line.contains("new ")) {
                checks.due("made with a field: " + line.trim(), line.matches("\\s+(private )?final .* = new .*;") ? 1 : 0, 1);
            }
        }
    }
}
