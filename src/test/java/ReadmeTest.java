import java.io.IOException;
import java.lang.reflect.Method;
import java.lang.reflect.Modifier;
import java.nio.file.Files;
import java.nio.file.Path;
import java.util.HashMap;
import java.util.List;
import java.util.Map;
import java.util.Set;
import java.util.TreeSet;
import java.util.regex.Matcher;
import java.util.regex.Pattern;

/** What README.md says of the class holds: its calls answer what stands behind them, and none is left out. */
public final class ReadmeTest {
    private static final Pattern CALL =
        Pattern.compile("(?:int (\\w+) = )?plan\\.(\\w+)\\(([^)]*)\\);\\s*// (-?\\d+)\\b.*");

    private final PlanRules plan = new PlanRules();
    private final Map<String, Integer> names = new HashMap<>();
    private final Set<String> called = new TreeSet<>();

    public static void main(String[] args) throws IOException, ReflectiveOperationException {
        String readme = Files.readString(Path.of("README.md"));
        new ReadmeTest().example(between(readme, "```java\n", "```"));
        callsHaveTheirLines(between(readme, "### The calls", "###"));
        kindsHaveTheirPlaces(between(readme, "### Kinds of formulas", "###"), 12);
        kindsHaveTheirPlaces(between(readme, "### Kinds of nodes", "###"), 9);
        testsHaveTheirLines(between(readme, "## Tests", "\nThe `EdgesOf"));
        Check.end();
    }

    private static String between(String text, String start, String end) {
        int from = text.indexOf(start);
        int to = text.indexOf(end, from + start.length());
        Check.holds("README.md has '" + start.trim() + "' and an end of it", from >= 0 && to > from);
        return from >= 0 && to > from ? text.substring(from + start.length(), to) : "";
    }

    private void example(String code) throws ReflectiveOperationException {
        List<String> lines = code.lines().toList();
        Check.due("the example's first line", lines.isEmpty() ? "" : lines.get(0), "PlanRules plan = new PlanRules();");
        for (String line : lines.subList(Math.min(1, lines.size()), lines.size())) {
            Matcher call = CALL.matcher(line);
            Check.holds("a call with what it answers: " + line, call.matches());
            if (call.matches()) {
                answer(line, call);
            }
        }
        for (Method method : PlanRules.class.getDeclaredMethods()) {
            if (Modifier.isPublic(method.getModifiers())) {
                Check.holds("the example calls " + method.getName(), called.contains(method.getName()));
            }
        }
    }

    private void answer(String line, Matcher call) throws ReflectiveOperationException {
        String[] words = call.group(3).split(", ");
        Object[] values = new Object[words.length];
        Class<?>[] types = new Class<?>[words.length];
        for (int i = 0; i < words.length; i++) {
            values[i] = names.containsKey(words[i]) ? names.get(words[i]) : Integer.valueOf(words[i]);
            types[i] = int.class;
        }
        int got = (int) PlanRules.class.getMethod(call.group(2), types).invoke(plan, values);
        Check.due(line, got, Integer.parseInt(call.group(4)));
        called.add(call.group(2));
        if (call.group(1) != null) {
            names.put(call.group(1), got);
        }
    }

    private static void callsHaveTheirLines(String table) {
        Check.holds("a line for the constructor", table.contains("\n| `new PlanRules()` |"));
        for (Method method : PlanRules.class.getDeclaredMethods()) {
            if (Modifier.isPublic(method.getModifiers())) {
                String words = "(\\w+, ){" + (method.getParameterCount() - 1) + "}\\w+";
                Check.holds("a line for " + method.getName(),
                    Pattern.compile("\n\\| `" + method.getName() + "\\(" + words + "\\)` \\|").matcher(table).find());
            }
        }
    }

    private static void kindsHaveTheirPlaces(String table, int kinds) {
        for (int kind = 0; kind < kinds; kind++) {
            Check.holds("a place for kind " + kind, table.contains("| " + kind + " "));
        }
    }

    private static void testsHaveTheirLines(String table) throws IOException {
        try (var files = Files.list(Path.of("src/test/java"))) {
            for (Path file : files.filter(path -> path.toString().endsWith("Test.java")).toList()) {
                String name = file.getFileName().toString().replace(".java", "");
                Check.holds("a line for " + name, table.contains("\n| `" + name + "` |"));
            }
        }
    }
}
