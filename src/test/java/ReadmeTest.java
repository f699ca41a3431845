import java.io.IOException;
import java.lang.reflect.Method;
import java.lang.reflect.Modifier;
import java.nio.file.Files;
import java.nio.file.Path;
import java.util.ArrayList;
import java.util.List;
import java.util.Map;
import java.util.Set;
import java.util.TreeMap;
import java.util.TreeSet;
import java.util.regex.Matcher;
import java.util.regex.Pattern;

/** README.md: each answer that its examples and tables show is the one that the program gives. */
public final class ReadmeTest {
    private static final Check CHECK = new Check("ReadmeTest");

    private static final String NEW_OBJECT = "SumsOver s = new SumsOver();";
    private static final String ANSWER = "(true|false|NONE|-?\\d+)";
    private static final Pattern CALL =
        Pattern.compile("s\\.(\\w+)\\(([^)]*)\\);\\s+// " + ANSWER + "(: \\S.*)?");
    private static final Pattern ROW =
        Pattern.compile("\\| `(\\w+)\\((.*?)\\)` \\| .* \\| `" + ANSWER + "` \\| (\\d+) \\|");

    private static final Map<String, Method> FACE = new TreeMap<>();

    /** What the columns "refused" say of each method. */
    private static final Map<String, String> REFUSED = new TreeMap<>();

    private static final Set<String> SHOWN = new TreeSet<>();
    private static final Set<String> SHOWN_REFUSED = new TreeSet<>();

    public static void main(String[] args) throws ReflectiveOperationException, IOException {
        for (Method m : SumsOver.class.getDeclaredMethods()) {
            if (Modifier.isPublic(m.getModifiers())) {
                FACE.put(m.getName(), m);
            }
        }
        List<String> lines = Files.readAllLines(Path.of("README.md"));
        String document = Files.readString(Path.of("../shared/DOC.md"));
        tables(lines, document);
        for (List<String> example : examples(lines)) {
            follow(example);
        }
        for (String name : FACE.keySet()) {
            CHECK.due(name + " has a row in a table", REFUSED.containsKey(name), true);
            CHECK.due(name + " is in an example", SHOWN.contains(name), true);
            CHECK.due(name + " is refused in an example", SHOWN_REFUSED.contains(name), true);
        }
        CHECK.end();
    }

    private static void tables(List<String> lines, String document) {
        for (String line : lines) {
            Matcher row = ROW.matcher(line);
            if (row.matches()) {
                row(row, document);
            } else {
                CHECK.due("a row that can't be read: " + line, line.startsWith("| `"), false);
            }
        }
    }

    private static void row(Matcher row, String document) {
        String name = row.group(1);
        Method method = FACE.get(name);
        CHECK.due(name + " is a method", method != null, true);
        if (method != null) {
            CHECK.due(name + ", parameters", words(row.group(2)).size(), method.getParameterCount());
        }
        CHECK.due(name + " has one row", REFUSED.put(name, row.group(3)) == null, true);
        String heading = "\n## Promise " + row.group(4) + ": " + name + "\n";
        CHECK.due(name + " is promise " + row.group(4), document.contains(heading), true);
    }

    private static List<List<String>> examples(List<String> lines) {
        List<List<String>> examples = new ArrayList<>();
        boolean inside = false;
        for (String line : lines) {
            if (line.startsWith("```")) {
                inside = line.equals("```java");
                if (inside) {
                    examples.add(new ArrayList<>());
                }
            } else if (inside && !line.isBlank()) {
                examples.get(examples.size() - 1).add(line);
            }
        }
        return examples;
    }

    /** A line that is neither a new object nor a call with its answer would go untested, so it is a fault. */
    private static void follow(List<String> example) throws ReflectiveOperationException {
        SumsOver s = null;
        for (String line : example) {
            Matcher call = CALL.matcher(line);
            if (line.equals(NEW_OBJECT)) {
                s = new SumsOver();
            } else if (s == null || !call.matches() || !FACE.containsKey(call.group(1))) {
                CHECK.due("a line that can't be read: " + line, false, true);
            } else {
                ask(s, line, FACE.get(call.group(1)), words(call.group(2)), call.group(3));
            }
        }
    }

    private static void ask(SumsOver s, String line, Method method, List<String> words, String shown)
            throws ReflectiveOperationException {
        Object[] values = values(method.getParameterTypes(), words);
        if (values == null) {
            CHECK.due("a call that doesn't compile: " + line, false, true);
            return;
        }
        Object got = method.invoke(s, values);
        CHECK.due(line + " -- which answered " + got, got.toString().equals(plain(shown)), true);
        SHOWN.add(method.getName());
        if (shown.equals(REFUSED.get(method.getName()))) {
            SHOWN_REFUSED.add(method.getName());
        }
    }

    private static Object[] values(Class<?>[] types, List<String> words) {
        if (types.length != words.size()) {
            return null;
        }
        Object[] values = new Object[types.length];
        for (int i = 0; i < types.length; i++) {
            String word = words.get(i);
            if (types[i] == int.class && word.matches("-?\\d{1,9}")) {
                values[i] = Integer.valueOf(word);
            } else if (types[i] == boolean.class && word.matches("true|false")) {
                values[i] = Boolean.valueOf(word);
            } else {
                return null;
            }
        }
        return values;
    }

    private static String plain(String shown) {
        return shown.equals("NONE") ? Integer.toString(SumsOver.NONE) : shown;
    }

    private static List<String> words(String text) {
        return text.isBlank() ? List.of() : List.of(text.trim().split("\\s*,\\s*"));
    }
}
