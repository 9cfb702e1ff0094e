import java.io.IOException;
import java.lang.reflect.Method;
import java.nio.file.Files;
import java.nio.file.Path;
import java.util.regex.Matcher;
import java.util.regex.Pattern;

/** The calls on the page README.md answer, in their order on one object, as it says there. */
public final class ReadmeTest {
    private static final Pattern WRITTEN = Pattern.compile("for \\(char sign : \"([^\"]+)\"\\.toCharArray");
    private static final Pattern CALL = Pattern.compile("^x\\.(\\w+)\\(([^)]*)\\);\\s+// (-?\\d+|[A-Z]+):");
    private static final Pattern CONSTANT = Pattern.compile("^\\| `([A-Z]+)`\\s*\\| (-\\d+)");
    private static final Checks checks = new Checks();
    private static int calls = 0;
    private static int constants = 0;

    public static void main(String[] args) throws IOException, ReflectiveOperationException {
        checks.about("README.md");
        LeapBoard x = new LeapBoard();
        for (String line : Files.readAllLines(Path.of("README.md"))) {
            Matcher written = WRITTEN.matcher(line);
            Matcher call = CALL.matcher(line);
            Matcher constant = CONSTANT.matcher(line);
            if (written.find()) {
                Checks.write(x, written.group(1));
            } else if (call.find()) {
                calls++;
                checks.due(line, answerOf(x, call.group(1), call.group(2)), told(call.group(3)));
            } else if (constant.find()) {
                constants++;
                checks.due(line, told(constant.group(1)), told(constant.group(2)));
            }
        }
        checks.due("calls on the page", calls, 19);
        checks.due("constants on the page", constants, 4);
        checks.due("NONE", LeapBoard.NONE, -1);
        checks.end();
    }

    private static long told(String word) throws ReflectiveOperationException {
        if (Character.isLetter(word.charAt(0))) {
            return LeapBoard.class.getField(word).getInt(null);
        }
        return Long.parseLong(word);
    }

    private static long answerOf(LeapBoard x, String name, String list) throws ReflectiveOperationException {
        String[] words = list.isEmpty() ? new String[0] : list.split(", ");
        for (Method m : LeapBoard.class.getMethods()) {
            if (m.getName().equals(name) && m.getParameterCount() == words.length) {
                Object[] given = new Object[words.length];
                for (int i = 0; i < words.length; i++) {
                    boolean isWord = m.getParameterTypes()[i] == boolean.class;
                    given[i] = isWord ? (Object) Boolean.valueOf(words[i]) : (Object) Integer.valueOf(words[i]);
                }
                return ((Number) m.invoke(x, given)).longValue();
            }
        }
        throw new IllegalArgumentException("no such call: " + name);
    }
}
