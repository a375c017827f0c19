import java.lang.reflect.Method;
import java.nio.file.Files;
import java.nio.file.Path;
import java.util.HashMap;
import java.util.HashSet;
import java.util.List;
import java.util.Map;
import java.util.Set;
import java.util.TreeSet;
import java.util.regex.Matcher;
import java.util.regex.Pattern;
import java.util.stream.Stream;

/** README.md: the calls that it shows answer what it says, it shows every call, and lists every test. Run in the project's folder. */
public final class ReadmeTest {
    private static final Due due = new Due();
    private static final Pattern SHOWN = Pattern.compile("x\\.(\\w+)\\(([^)]*)\\); +// (-?\\d+|[A-Z]+)(:.*)?");
    private static final Map<String, Integer> CONSTANTS = Map.of("BAD", Due.BAD, "NO", Due.NO, "FULL", Due.FULL, "NONE", Due.NONE,
        "NOTHING", Due.NOTHING, "KIND", Due.KIND, "INDEX", Due.INDEX, "SIZE", Due.SIZE);

    public static void main(String[] args) throws Exception {
        List<String> lines = Files.readAllLines(Path.of("README.md"));
        calls(lines);
        tests(lines);
        due.end();
    }

    private static void calls(List<String> lines) throws Exception {
        Map<String, Method> methods = new HashMap<>();
        for (Method method : TwinTables.class.getDeclaredMethods()) methods.put(method.getName(), method);
        Set<String> shown = new HashSet<>();
        TwinTables x = new TwinTables();
        boolean code = false;
        for (String line : lines) {
            if (line.startsWith("```")) code = line.equals("```java");
            if (!code || line.isBlank() || line.startsWith("```") || line.startsWith("//")) continue;
            if (line.equals("TwinTables x = new TwinTables();")) {
                x = new TwinTables();
                continue;
            }
            Matcher call = SHOWN.matcher(line);
            due.is("a call and its answer: " + line, call.matches() ? 1 : 0, 1);
            if (!call.matches()) continue;
            due.is(line, answer(x, methods.get(call.group(1)), call.group(2)), number(call.group(3)));
            shown.add(call.group(1));
        }
        for (String name : Caller.NAMES) due.is("README.md shows " + name, shown.contains(name) ? 1 : 0, 1);
    }

    private static int answer(TwinTables x, Method method, String arguments) throws Exception {
        String[] words = arguments.isEmpty() ? new String[0] : arguments.split(", ");
        Object[] numbers = new Object[words.length];
        for (int k = 0; k < words.length; k++) numbers[k] = number(words[k].replace("TwinTables.", ""));
        return (Integer) method.invoke(x, numbers);
    }

    private static int number(String word) {
        return CONSTANTS.containsKey(word) ? CONSTANTS.get(word) : Integer.decode(word);
    }

    private static void tests(List<String> lines) throws Exception {
        Set<String> there = new TreeSet<>();
        try (Stream<Path> files = Files.list(Path.of("src/test/java"))) {
            files.map(file -> file.getFileName().toString()).filter(name -> name.endsWith("Test.java")).forEach(name -> there.add(name.replace(".java", "")));
        }
        Set<String> listed = new TreeSet<>();
        for (String line : lines) {
            Matcher row = Pattern.compile("\\| (\\w+Test) \\|.*").matcher(line);
            if (row.matches()) listed.add(row.group(1));
        }
        due.is("tests listed in README.md " + listed + ", there are " + there, listed.equals(there) ? 1 : 0, 1);
    }
}
