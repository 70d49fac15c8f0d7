import java.lang.reflect.Constructor;
import java.lang.reflect.Field;
import java.lang.reflect.InvocationTargetException;
import java.lang.reflect.Method;
import java.lang.reflect.Modifier;
import java.io.IOException;
import java.nio.file.Files;
import java.nio.file.Path;
import java.util.Arrays;
import java.util.HashSet;
import java.util.Map;
import java.util.Set;
import java.util.TreeMap;
import java.util.regex.Pattern;

/** The class shows the document's face and nothing else, and keeps to rules that can be seen from outside. */
public final class FaceTest extends Desks {
    private static final Map<String, Integer> METHODS = new TreeMap<>(Map.ofEntries(
            Map.entry("program", 0), Map.entry("line", 4), Map.entry("about", 3), Map.entry("whole", 1),
            Map.entry("run", 3), Map.entry("told", 1), Map.entry("done", 1), Map.entry("question", 4),
            Map.entry("answer", 2), Map.entry("choices", 2), Map.entry("choice", 2), Map.entry("gap", 2),
            Map.entry("filling", 1), Map.entry("why", 2), Map.entry("same", 2), Map.entry("give", 3),
            Map.entry("price", 2), Map.entry("cost", 2), Map.entry("sets", 1), Map.entry("set", 2),
            Map.entry("next", 1), Map.entry("parting", 0), Map.entry("count", 1)));
    private static final Set<String> CONSTANTS = Set.of("NONE", "FULL", "STATE", "NO_VALUE");
    private static final String[] WORDS_RULED_OUT = {"throw", "throws", "try", "catch", "synchronized", "assert",
        "static\\s*\\{", "->", "::", "package", "Random", "Thread", "[a-z]+Exact"};

    /** Around each bound of the document, and the ends of the range. */
    private static final int[] ARGUMENTS = {MIN, -100, -99, -1, 0, 1, 2, 3, 4, 6, 9, 10, 20, 60, 64, 99, 100, MAX};
    private static final int CALLS_OF_AN_OBJECT = 512, CALLS_AHEAD = 50;

    public static void main(String[] args) throws IOException, IllegalAccessException {
        due.part("face");
        due.is("modifiers", CodeQuiz.class.getModifiers(), Modifier.PUBLIC | Modifier.FINAL);
        constructors();
        methods();
        fields();
        for (Class<?> inside : CodeQuiz.class.getDeclaredClasses()) {
            due.holds(inside + " is static", Modifier.isStatic(inside.getModifiers()));
            due.holds(inside + " is not seen outside",
                    (inside.getModifiers() & (Modifier.PUBLIC | Modifier.PROTECTED)) == 0);
            staticFieldsAreFinal(inside);
        }
        words();
        noCallThrows();
        due.end();
    }

    private static void constructors() {
        Constructor<?>[] all = CodeQuiz.class.getDeclaredConstructors();
        due.is("constructors", all.length, 1);
        due.is("its parameters", all[0].getParameterCount(), 0);
        due.holds("it is public", Modifier.isPublic(all[0].getModifiers()));
    }

    private static void methods() {
        Set<String> seen = new HashSet<>();
        for (Method method : CodeQuiz.class.getDeclaredMethods()) {
            String name = method.getName();
            due.holds(name + " takes at most seven", method.getParameterCount() <= 7);
            if (Modifier.isPublic(method.getModifiers())) {
                due.holds(name + " is of the face", METHODS.containsKey(name) && seen.add(name));
                due.is(name + "'s parameters", method.getParameterCount(), METHODS.getOrDefault(name, -1));
                due.holds(name + " answers an int", method.getReturnType() == int.class);
                for (Class<?> parameter : method.getParameterTypes()) {
                    due.holds(name + " takes ints", parameter == int.class);
                }
            } else {
                due.holds(name + " is private", Modifier.isPrivate(method.getModifiers()));
                due.holds(name + " has a name of its own", !METHODS.containsKey(name));
            }
        }
        due.is("methods of the face", seen.size(), METHODS.size());
    }

    private static void fields() {
        int constants = 0;
        for (Field field : CodeQuiz.class.getDeclaredFields()) {
            if (CONSTANTS.contains(field.getName())) {
                constants++;
                due.is(field.getName(), field.getModifiers(), Modifier.PUBLIC | Modifier.STATIC | Modifier.FINAL);
            } else {
                due.holds(field.getName() + " is private", Modifier.isPrivate(field.getModifiers()));
            }
        }
        due.is("constants", constants, CONSTANTS.size());
        staticFieldsAreFinal(CodeQuiz.class);
    }

    private static void staticFieldsAreFinal(Class<?> type) {
        for (Field field : type.getDeclaredFields()) {
            int modifiers = field.getModifiers();
            due.holds(field + " is final if static", !Modifier.isStatic(modifiers) || Modifier.isFinal(modifiers));
        }
    }

    private static void noCallThrows() throws IllegalAccessException {
        for (Method method : CodeQuiz.class.getMethods()) {
            if (METHODS.containsKey(method.getName())) {
                noCallThrows(method, false);
                noCallThrows(method, true);
            }
        }
    }

    /** All arguments together with all others, on a desk without programs or on one that was used. */
    private static void noCallThrows(Method method, boolean used) throws IllegalAccessException {
        int parameters = method.getParameterCount();
        int all = (int) Math.pow(ARGUMENTS.length, parameters);
        CodeQuiz desk = null;
        String thrown = "";
        for (int i = 0; i < all; i++) {
            if (i % (CALLS_OF_AN_OBJECT - CALLS_AHEAD) == 0) {
                desk = used ? usedDesk() : new CodeQuiz();
            }
            Object[] arguments = new Object[parameters];
            for (int k = 0, rest = i; k < parameters; k++, rest /= ARGUMENTS.length) {
                arguments[k] = ARGUMENTS[rest % ARGUMENTS.length];
            }
            try {
                method.invoke(desk, arguments);
            } catch (InvocationTargetException e) {
                thrown = Arrays.toString(arguments) + " " + e.getCause();
            }
        }
        due.holds(method.getName() + " never throws: " + thrown, thrown.isEmpty());
    }

    private static void words() throws IOException {
        String source = Files.readString(Path.of("src/main/java/CodeQuiz.java"));
        String code = source.replaceAll("(?s)/\\*.*?\\*/", "").replaceAll("//.*", "");
        for (String word : WORDS_RULED_OUT) {
            String pattern = Character.isLetter(word.charAt(0)) ? "\\b" + word : word;
            pattern = Character.isLetter(word.charAt(word.length() - 1)) ? pattern + "\\b" : pattern;
            due.holds("no " + word, !Pattern.compile(pattern).matcher(code).find());
        }
    }
}
