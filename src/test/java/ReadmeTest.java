import java.io.IOException;
import java.lang.reflect.Method;
import java.lang.reflect.Modifier;
import java.nio.file.Files;
import java.nio.file.Path;
import java.util.HashMap;
import java.util.Map;
import java.util.regex.Matcher;
import java.util.regex.Pattern;

/** The example of README.md, row by row, and whether it names every call; it is run in the folder of the project. */
public final class ReadmeTest {
    private static final Pattern ROW = Pattern.compile(
            "(?:int (?<name>\\w+) = )?yard\\.(?<call>\\w+)\\((?<given>[^)]*)\\); +// (?<due>-?\\d+|true|false): .*");
    private static final int ROWS = 12;

    public static void main(String[] args) throws IOException, ReflectiveOperationException {
        String readme = Files.readString(Path.of("README.md"));
        runExample(readme);
        for (Method call : PollYard.class.getDeclaredMethods()) {
            boolean isPublic = Modifier.isPublic(call.getModifiers());
            Due.is(call.getName() + " in the table", !isPublic || readme.contains("`" + call.getName() + "("), true);
        }
        Due.end();
    }

    private static void runExample(String readme) throws ReflectiveOperationException {
        PollYard yard = new PollYard();
        Map<String, Integer> names = new HashMap<>();
        int rows = 0;
        int from = readme.indexOf("```java\n") + "```java\n".length();
        for (String line : readme.substring(from, readme.indexOf("```", from)).split("\n")) {
            Matcher row = ROW.matcher(line);
            if (row.matches()) {
                long got = answer(yard, row.group("call"), row.group("given"), names);
                Due.is(line, got, number(row.group("due"), names));
                if (row.group("name") != null) {
                    names.put(row.group("name"), (int) got);
                }
                rows++;
            }
        }
        Due.is("rows of the example", rows, ROWS);
    }

    private static long answer(PollYard yard, String call, String given, Map<String, Integer> names)
            throws ReflectiveOperationException {
        String[] words = given.isEmpty() ? new String[0] : given.split(", ");
        Class<?>[] types = new Class<?>[words.length];
        Object[] values = new Object[words.length];
        for (int i = 0; i < words.length; i++) {
            types[i] = int.class;
            values[i] = number(words[i], names);
        }
        return number(PollYard.class.getMethod(call, types).invoke(yard, values).toString(), names);
    }

    /** A boolean counts 1 or 0. */
    private static int number(String word, Map<String, Integer> names) {
        if (word.equals("true") || word.equals("false")) {
            return word.equals("true") ? 1 : 0;
        }
        return names.containsKey(word) ? names.get(word) : Integer.parseInt(word);
    }
}
