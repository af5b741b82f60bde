import java.io.IOException;
import java.lang.reflect.Method;
import java.nio.file.Files;
import java.nio.file.Path;
import java.util.HashMap;
import java.util.Map;
import java.util.regex.Matcher;
import java.util.regex.Pattern;

/** The lines of code in README.md answer what they say. Runs in the project's folder. */
public final class ReadmeTest {
    private static final Pattern CALL =
        Pattern.compile("(?:int (\\w+) = )?bank\\.(\\w+)\\(([^)]*)\\); *// (.*)");
    private static final Checks CHECKS = new Checks();
    private static final Map<String, Integer> NAMES = new HashMap<>();

    public static void main(String[] args) throws IOException, ReflectiveOperationException {
        String text = Files.readString(Path.of("README.md"));
        Matcher block = Pattern.compile("```java\n(.*?)```", Pattern.DOTALL).matcher(text);
        CHECKS.due("there are lines of code", block.find(), true);
        String[] lines = block.group(1).split("\n");
        CHECKS.due("the first line", lines[0], "CapitalReckoner bank = new CapitalReckoner();");
        CapitalReckoner bank = new CapitalReckoner();
        for (int line = 1; line < lines.length; line++) {
            follow(bank, lines[line]);
        }
        for (Method method : CapitalReckoner.class.getMethods()) {
            if (method.getDeclaringClass() == CapitalReckoner.class) {
                CHECKS.due("README.md tells of " + method.getName(), text.contains("`" + method.getName() + "("), true);
            }
        }
        CHECKS.end("ReadmeTest");
    }

    /** A line that keeps its answer gives it a name; the comment of any other one has the answer in it. */
    private static void follow(CapitalReckoner bank, String line) throws ReflectiveOperationException {
        Matcher m = CALL.matcher(line);
        CHECKS.due("this line is one call: " + line, m.matches(), true);
        int answer = call(bank, m.group(2), m.group(3));
        if (m.group(1) != null) {
            NAMES.put(m.group(1), answer);
        } else {
            CHECKS.due(line, toldIn(m.group(4)), answer);
        }
    }

    /** The answer stands first in the comment, or behind a semicolon. */
    private static int toldIn(String comment) {
        Matcher m = Pattern.compile("(?:.*; )?(-?\\d+)\\b.*").matcher(comment);
        return m.matches() ? Integer.parseInt(m.group(1)) : Integer.MIN_VALUE;
    }

    private static int call(CapitalReckoner bank, String name, String list) throws ReflectiveOperationException {
        String[] words = list.isEmpty() ? new String[0] : list.split(", ");
        Object[] numbers = new Object[words.length];
        Class<?>[] types = new Class<?>[words.length];
        for (int at = 0; at < words.length; at++) {
            numbers[at] = number(words[at]);
            types[at] = int.class;
        }
        return (int) CapitalReckoner.class.getMethod(name, types).invoke(bank, numbers);
    }

    private static int number(String word) {
        if (word.startsWith("1 << ")) {
            return 1 << number(word.substring(5));
        }
        return NAMES.containsKey(word) ? NAMES.get(word) : Integer.parseInt(word);
    }
}
