import java.lang.reflect.InvocationTargetException;
import java.lang.reflect.Method;
import java.lang.reflect.Modifier;
import java.nio.file.Files;
import java.nio.file.Path;
import java.util.ArrayList;
import java.util.List;
import java.util.Map;
import java.util.Set;
import java.util.TreeMap;
import java.util.TreeSet;
import java.util.regex.Matcher;
import java.util.regex.Pattern;

/** What README.md tells of the class is so: its example answers as written there, and its table is the face's. */
public final class ReadmeTest {
    private static final Pattern EXAMPLE = Pattern.compile("(?s)```java\\n(.*?)```");
    private static final Pattern MADE = Pattern.compile("DesignSpaces x = new DesignSpaces\\((-?\\d+)\\); +//.*");
    private static final Pattern CALL = Pattern.compile("(?:int (\\w+) = )?x\\.(\\w+)\\((.*)\\); +// -> ([^:]+)(:.*)?");
    private static final Pattern ROW = Pattern.compile("\\| `(\\w+)\\(([^)]*)\\)` \\| .* \\|([^|]*)\\|");
    private static final Pattern EXCEPTION = Pattern.compile("\\w+Exception");

    private static final List<String> faults = new ArrayList<>();
    private static final Map<String, Method> face = new TreeMap<>();
    /** What the example has by names: numbers of its choices, and NONE. */
    private static final Map<String, Object> named = new TreeMap<>();
    private static final Set<String> called = new TreeSet<>();
    private static int answers = 0;

    private static void runExample(String readme) throws Exception {
        Matcher example = EXAMPLE.matcher(readme);
        if (!example.find()) {
            faults.add("there is no example");
            return;
        }
        DesignSpaces x = null;
        for (String line : example.group(1).lines().filter(l -> !l.isBlank()).toList()) {
            Matcher made = MADE.matcher(line);
            Matcher call = CALL.matcher(line);
            if (made.matches()) {
                x = new DesignSpaces(Integer.parseInt(made.group(1)));
            } else if (x != null && call.matches() && face.containsKey(call.group(2))) {
                check(x, call);
            } else {
                faults.add("a line of the example that is not understood: " + line);
            }
        }
    }

    private static void check(DesignSpaces x, Matcher call) throws Exception {
        Object answer;
        try {
            answer = face.get(call.group(2)).invoke(x, argumentsOf(call.group(3)));
        } catch (InvocationTargetException e) {
            answer = "throws " + e.getCause().getClass().getSimpleName();
        }
        if (call.group(1) != null) {
            named.put(call.group(1), answer);
        }
        called.add(call.group(2));
        answers++;
        if (!String.valueOf(answer).equals(call.group(4).strip())) {
            faults.add(call.group().strip() + ": answered " + answer);
        }
    }

    private static Object[] argumentsOf(String text) {
        List<Object> arguments = new ArrayList<>();
        for (String part : text.isEmpty() ? new String[0] : text.split(", ")) {
            if (part.equals("true") || part.equals("false")) {
                arguments.add(part.equals("true"));
            } else {
                arguments.add(named.containsKey(part) ? named.get(part) : Integer.valueOf(part));
            }
        }
        return arguments.toArray();
    }

    /** By call how many parameters it has, and its exceptions in their order. */
    private static Map<String, String> rowsOfFace() {
        Map<String, String> rows = new TreeMap<>();
        for (Method m : face.values()) {
            List<String> thrown = new ArrayList<>();
            for (Class<?> e : m.getExceptionTypes()) {
                thrown.add(e.getSimpleName());
            }
            rows.put(m.getName(), m.getParameterCount() + " " + thrown);
        }
        return rows;
    }

    private static Map<String, String> rowsOfTable(String readme) {
        Map<String, String> rows = new TreeMap<>();
        readme.lines().map(ROW::matcher).filter(Matcher::matches).forEach(row -> {
            List<String> thrown = EXCEPTION.matcher(row.group(3)).results().map(r -> r.group()).toList();
            int parameters = row.group(2).isEmpty() ? 0 : row.group(2).split(",").length;
            rows.put(row.group(1), parameters + " " + thrown);
        });
        return rows;
    }

    public static void main(String[] args) throws Exception {
        String readme = Files.readString(Path.of("README.md"));
        for (Method m : DesignSpaces.class.getDeclaredMethods()) {
            if (Modifier.isPublic(m.getModifiers())) {
                face.put(m.getName(), m);
            }
        }
        named.put("DesignSpaces.NONE", DesignSpaces.NONE);
        runExample(readme);
        if (!called.equals(face.keySet())) {
            faults.add("the example calls " + called + ", the face has " + face.keySet());
        }
        if (!rowsOfTable(readme).equals(rowsOfFace())) {
            faults.add("the table has " + rowsOfTable(readme) + ", the face " + rowsOfFace());
        }
        if (!readme.contains("`.ci/run`")) {
            faults.add("README.md does not say how the tests are run");
        }
        faults.forEach(System.out::println);
        System.out.println("ReadmeTest: " + answers + " answers, " + faults.size() + " wrong");
        if (!faults.isEmpty()) {
            System.exit(1);
        }
    }
}
