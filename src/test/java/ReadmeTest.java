import java.io.IOException;
import java.lang.reflect.InvocationTargetException;
import java.lang.reflect.Method;
import java.lang.reflect.Modifier;
import java.nio.file.Files;
import java.nio.file.Path;
import java.util.ArrayList;
import java.util.Arrays;
import java.util.HashMap;
import java.util.List;
import java.util.Map;
import java.util.TreeMap;
import java.util.regex.Matcher;
import java.util.regex.Pattern;

/** README.md tells what the class does: the answers of its example, and each call with the ways it is refused. */
public final class ReadmeTest extends Desks {
    /** As in the document, in its order. */
    private static final Map<String, String> REFUSALS = new TreeMap<>(Map.ofEntries(
            Map.entry("program", "FULL"), Map.entry("line", "NONE STATE FULL"), Map.entry("about", "NO_VALUE"),
            Map.entry("whole", "NONE"), Map.entry("run", "NONE STATE"), Map.entry("told", "NO_VALUE"),
            Map.entry("done", "NONE"), Map.entry("question", "NONE STATE FULL"), Map.entry("answer", "NO_VALUE"),
            Map.entry("choices", "NONE STATE"), Map.entry("choice", "NO_VALUE"), Map.entry("gap", "NONE STATE"),
            Map.entry("filling", "NO_VALUE"), Map.entry("why", "NONE"), Map.entry("same", "NONE STATE"),
            Map.entry("give", "NONE"), Map.entry("price", "NONE"), Map.entry("cost", "NONE"),
            Map.entry("sets", "NONE"), Map.entry("set", "NONE"), Map.entry("next", "NONE"),
            Map.entry("parting", ""), Map.entry("count", "NONE")));
    private static final Pattern EXAMPLE =
            Pattern.compile("(?:int (\\w+) = )?desk\\.(\\w+)\\((.*)\\); +// (-?\\d+)\\b.*");
    private static final Pattern ROW = Pattern.compile("\\| `(\\w+)\\((.*?)\\)` \\| (.+) \\| (.*)\\|");
    private static final Pattern REFUSAL = Pattern.compile("`(NONE|FULL|STATE|NO_VALUE)`:");

    public static void main(String[] args) throws IOException, IllegalAccessException {
        List<String> readme = Files.readAllLines(Path.of("README.md"));
        due.part("README.md, the example");
        example(readme);
        due.part("README.md, the calls");
        calls(readme);
        due.end();
    }

    private static void example(List<String> readme) throws IllegalAccessException {
        CodeQuiz desk = new CodeQuiz();
        Map<String, Integer> names = new HashMap<>();
        List<String> block = readme.subList(readme.indexOf("```java") + 1, readme.lastIndexOf("```"));
        due.is("its first line makes a desk", block.indexOf("CodeQuiz desk = new CodeQuiz();"), 0);
        for (String line : block.subList(1, block.size())) {
            Matcher call = EXAMPLE.matcher(line);
            due.holds("a call with its answer: " + line, call.matches());
            if (call.matches()) {
                int answer = answer(desk, call.group(2), arguments(call.group(3), names));
                due.is(line, answer, Integer.parseInt(call.group(4)));
                names.put(call.group(1), answer);
            }
        }
    }

    private static Object[] arguments(String text, Map<String, Integer> names) {
        List<Object> arguments = new ArrayList<>();
        for (String word : text.isEmpty() ? new String[0] : text.split(", ")) {
            arguments.add(names.containsKey(word) ? names.get(word) : Integer.valueOf(word));
        }
        return arguments.toArray();
    }

    private static int answer(CodeQuiz desk, String name, Object[] arguments) throws IllegalAccessException {
        Class<?>[] types = new Class<?>[arguments.length];
        Arrays.fill(types, int.class);
        try {
            return (Integer) CodeQuiz.class.getMethod(name, types).invoke(desk, arguments);
        } catch (NoSuchMethodException | InvocationTargetException e) {
            throw new IllegalStateException(name, e);
        }
    }

    private static void calls(List<String> readme) {
        Map<String, Integer> parameters = new TreeMap<>();
        for (String line : readme) {
            Matcher row = ROW.matcher(line);
            if (row.matches()) {
                String name = row.group(1);
                due.holds(name + " has one row", !parameters.containsKey(name));
                parameters.put(name, row.group(2).isEmpty() ? 0 : row.group(2).split(", ").length);
                String want = REFUSALS.get(name);
                due.holds(name + " is refused by " + want, refusals(row.group(4)).equals(want));
            }
        }
        for (Method method : CodeQuiz.class.getDeclaredMethods()) {
            if (Modifier.isPublic(method.getModifiers())) {
                due.is(method.getName() + "'s parameters", parameters.getOrDefault(method.getName(), -1),
                        method.getParameterCount());
            }
        }
        due.is("how many calls", parameters.size(), REFUSALS.size());
    }

    private static String refusals(String cell) {
        List<String> names = new ArrayList<>();
        Matcher refusal = REFUSAL.matcher(cell);
        while (refusal.find()) {
            names.add(refusal.group(1));
        }
        return String.join(" ", names);
    }
}
