import java.lang.reflect.Constructor;
import java.lang.reflect.Field;
import java.lang.reflect.Method;
import java.lang.reflect.Modifier;
import java.nio.file.Files;
import java.nio.file.Path;
import java.util.ArrayList;
import java.util.List;
import java.util.Map;
import java.util.Set;
import java.util.TreeMap;
import java.util.TreeSet;
import java.util.regex.Matcher;
import java.util.regex.Pattern;
import java.util.stream.Stream;

/** The face of the document and no more, and what of LANGUAGE.md can be seen in the text. */
public final class FaceTest {
    private static final Pattern FACE = Pattern.compile(
        "(?s)## The public face\\s+```java\\s+public final class DesignSpaces \\{(.*?)}\\s+```");
    private static final Pattern CONSTANT = Pattern.compile("(public static final int) (\\w+) = (-?\\d+);");
    private static final Pattern MAKER = Pattern.compile("public DesignSpaces\\(([^)]*)\\);");
    private static final Pattern METHOD = Pattern.compile("(public \\w+ \\w+)\\(([^)]*)\\)(?: throws ([\\w, ]+))?;");
    private static final String[] RULED_OUT = {"import ", "package ", "catch", "try ", "finally", "->", "::", "synchronized",
        "assert", "Exact(", "System.out", "Random", "static {", "hashCode", "equals(", "toString", "Arrays.sort"};

    private static int wrong = 0;

    private static void fault(String text) {
        wrong++;
        System.out.println(text);
    }

    private static String names(Class<?>[] types) {
        StringBuilder out = new StringBuilder();
        for (Class<?> type : types) {
            out.append(out.length() == 0 ? "" : " ").append(type.getSimpleName());
        }
        return out.toString();
    }

    private static Set<String> visibleMembers() throws Exception {
        Set<String> seen = new TreeSet<>();
        for (Field f : DesignSpaces.class.getDeclaredFields()) {
            if (!Modifier.isPrivate(f.getModifiers())) {
                seen.add("field " + Modifier.toString(f.getModifiers()) + " " + f.getType() + " " + f.getName()
                    + (Modifier.isStatic(f.getModifiers()) ? " = " + f.get(null) : ""));
            }
        }
        for (Constructor<?> c : DesignSpaces.class.getDeclaredConstructors()) {
            seen.add("constructor " + Modifier.toString(c.getModifiers()) + " (" + names(c.getParameterTypes()) + ")");
        }
        for (Method m : DesignSpaces.class.getDeclaredMethods()) {
            if (!Modifier.isPrivate(m.getModifiers())) {
                String thrown = names(m.getExceptionTypes());
                seen.add(Modifier.toString(m.getModifiers()) + " " + m.getReturnType() + " " + m.getName() + "("
                    + names(m.getParameterTypes()) + ")" + (thrown.isEmpty() ? "" : " throws " + thrown));
            }
        }
        return seen;
    }

    /** The members that the document's section has, in the words of visibleMembers. */
    private static Set<String> membersOfDocument() throws Exception {
        String document = Files.readString(Path.of("../shared/DOC.md"));
        Matcher block = FACE.matcher(document);
        Set<String> due = new TreeSet<>();
        if (!block.find()) {
            fault("the document's face is not found");
            return due;
        }
        for (String line : block.group(1).strip().split("\\s*\\n\\s*")) {
            due.add(memberOf(line));
        }
        return due;
    }

    private static String memberOf(String line) {
        Matcher constant = CONSTANT.matcher(line);
        if (constant.matches()) {
            return "field " + constant.group(1) + " " + constant.group(2) + " = " + constant.group(3);
        }
        Matcher maker = MAKER.matcher(line);
        if (maker.matches()) {
            return "constructor public (" + typesOf(maker.group(1)) + ")";
        }
        Matcher method = METHOD.matcher(line);
        if (!method.matches()) {
            fault("a line of the document's face that is not understood: " + line);
            return line;
        }
        String thrown = method.group(3);
        return method.group(1) + "(" + typesOf(method.group(2)) + ")"
            + (thrown == null ? "" : " throws " + thrown.replace(",", ""));
    }

    /** Of parameters their types alone, with a space between. */
    private static String typesOf(String parameters) {
        return parameters.replaceAll("(\\w+) \\w+,?", "$1");
    }

    private static void checkFace() throws Exception {
        Set<String> due = membersOfDocument();
        Set<String> seen = visibleMembers();
        for (String member : due) {
            if (!seen.contains(member)) {
                fault("not there: " + member);
            }
        }
        for (String member : seen) {
            if (!due.contains(member)) {
                fault("not in the face: " + member);
            }
        }
        if (!Modifier.isFinal(DesignSpaces.class.getModifiers()) || !Modifier.isPublic(DesignSpaces.class.getModifiers())) {
            fault("the class is not public and final");
        }
    }

    private static void checkClassesInside() {
        Set<String> publicNames = new TreeSet<>();
        for (Method m : DesignSpaces.class.getMethods()) {
            publicNames.add(m.getName());
        }
        Class<?>[] inside = DesignSpaces.class.getDeclaredClasses();
        if (inside.length > 11) {
            fault("too many classes: " + inside.length);
        }
        for (Class<?> c : inside) {
            if (!Modifier.isStatic(c.getModifiers()) || Modifier.isPublic(c.getModifiers())) {
                fault("not a hidden static class: " + c.getName());
            }
            for (Method m : c.getDeclaredMethods()) {
                if (publicNames.contains(m.getName())) {
                    fault(c.getName() + " has a method with a name of the face: " + m.getName());
                }
            }
            for (Field f : c.getDeclaredFields()) {
                if (Modifier.isStatic(f.getModifiers())) {
                    fault("static state: " + f);
                }
            }
        }
    }

    private static void checkText(String text) {
        for (String word : RULED_OUT) {
            if (text.contains(word)) {
                fault("the text holds what LANGUAGE.md leaves out: " + word);
            }
        }
    }

    private static String withoutCommentsAndTexts(String text) {
        return text.replaceAll("(?s)/\\*.*?\\*/", "").replaceAll("//.*", "").replaceAll("\"[^\"]*\"", "");
    }

    /** By a method's name what stands between its braces; methods of one name are taken as one. */
    private static Map<String, String> bodies(String code) {
        Matcher head = Pattern.compile("(\\w+)\\([^()]*\\)\\s*(throws [\\w,\\s]+)?\\{").matcher(code);
        Map<String, String> found = new TreeMap<>();
        while (head.find()) {
            int open = 1;
            int end = head.end();
            while (open > 0) {
                char c = code.charAt(end);
                open += c == '{' ? 1 : c == '}' ? -1 : 0;
                end++;
            }
            found.merge(head.group(1), code.substring(head.end(), end), String::concat);
        }
        return found;
    }

    /** How many calls stand open at most, from this one on; a method that comes back to itself is a fault (rule 8). */
    private static int depthOf(String method, Map<String, String> bodies, Set<String> open) {
        if (!open.add(method)) {
            fault("calls itself: " + method + " through " + open);
            return 0;
        }
        int deepest = 0;
        Matcher call = Pattern.compile("(\\w+)\\(").matcher(bodies.get(method));
        while (call.find()) {
            if (bodies.containsKey(call.group(1))) {
                deepest = Math.max(deepest, depthOf(call.group(1), bodies, open));
            }
        }
        open.remove(method);
        return deepest + 1;
    }

    /** Rule 12: constructors alone make things, of sizes that are written out; a call makes what it throws, no more. */
    private static void checkMaking(String code) {
        for (Map.Entry<String, String> method : bodies(code).entrySet()) {
            boolean constructor = Character.isUpperCase(method.getKey().charAt(0));
            String body = method.getValue().replaceAll("throw new \\w+\\(\\)", "");
            if (!constructor && Pattern.compile("\\bnew\\b|\\bclone\\(|copyOf|StringBuilder|String\\b").matcher(body).find()) {
                fault("makes something: " + method.getKey());
            }
            if (constructor && Pattern.compile("\\b(for|while|do)\\b").matcher(body).find()) {
                fault("a constructor with a loop: " + method.getKey());
            }
        }
        Matcher array = Pattern.compile("new \\w+\\[([^]]*)]").matcher(code);
        while (array.find()) {
            if (!array.group(1).matches("[A-Z_0-9]+( \\* [A-Z_0-9]+)?")) {
                fault("an array whose size is not written out: " + array.group());
            }
        }
    }

    private static void checkCalls(String code) {
        Map<String, String> bodies = bodies(code);
        for (Method m : DesignSpaces.class.getMethods()) {
            if (m.getDeclaringClass() == DesignSpaces.class && !bodies.containsKey(m.getName())) {
                fault("not found in the text: " + m.getName());
            }
        }
        for (String method : bodies.keySet()) {
            if (depthOf(method, bodies, new TreeSet<>()) > 8) {
                fault("calls go more than eight deep from " + method);
            }
        }
    }

    /** Rule 11: few parameters and fields, and methods that stay short. */
    private static void checkSizes(String code) {
        List<Class<?>> classes = new ArrayList<>(List.of(DesignSpaces.class.getDeclaredClasses()));
        classes.add(DesignSpaces.class);
        for (Class<?> c : classes) {
            long fields = Stream.of(c.getDeclaredFields()).filter(f -> !Modifier.isStatic(f.getModifiers())).count();
            if (fields > 20) {
                fault("too many fields: " + c.getName());
            }
            for (Method m : c.getDeclaredMethods()) {
                if (m.getParameterCount() > 7) {
                    fault("more than seven parameters: " + m.getName());
                }
            }
        }
        for (Map.Entry<String, String> method : bodies(code).entrySet()) {
            if (method.getValue().lines().count() > 60) {
                fault("a long method: " + method.getKey());
            }
        }
    }

    public static void main(String[] args) throws Exception {
        String text = Files.readString(Path.of("src/main/java/DesignSpaces.java"));
        checkFace();
        checkClassesInside();
        checkText(text);
        String code = withoutCommentsAndTexts(text);
        checkCalls(code);
        checkMaking(code);
        checkSizes(code);
        System.out.println("FaceTest: " + wrong + " wrong");
        if (wrong != 0) {
            System.exit(1);
        }
    }
}
