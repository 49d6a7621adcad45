import java.lang.reflect.Constructor;
import java.lang.reflect.Field;
import java.lang.reflect.Method;
import java.lang.reflect.Modifier;
import java.nio.file.Files;
import java.nio.file.Path;
import java.util.Arrays;
import java.util.Set;
import java.util.TreeSet;

/** The face of the document and no more, and what of LANGUAGE.md can be seen in the text. */
public final class FaceTest {
    private static final String[] FACE = {
        "field public static final int NONE",
        "constructor public (int)",
        "public int choice(int) throws IllegalArgumentException UnsupportedOperationException",
        "public int term(int int int int int int) throws IndexOutOfBoundsException IllegalArgumentException UnsupportedOperationException",
        "public int rule(int int int int) throws IndexOutOfBoundsException IllegalArgumentException UnsupportedOperationException",
        "public boolean limit(int boolean int) throws IndexOutOfBoundsException",
        "public int number(int int) throws IndexOutOfBoundsException",
        "public int value(int int) throws IndexOutOfBoundsException",
        "public boolean legal(int) throws IndexOutOfBoundsException",
        "public boolean beats(int int) throws IndexOutOfBoundsException IllegalArgumentException",
        "public int undominated()",
        "public int at(int) throws IndexOutOfBoundsException",
        "public int best(int) throws IndexOutOfBoundsException",
        "public int looked()",
        "public int bound(int int int) throws IndexOutOfBoundsException",
        "public int near(int int) throws IndexOutOfBoundsException",
        "public int slack(int) throws IllegalArgumentException",
        "public int walk(int int) throws IndexOutOfBoundsException IllegalArgumentException IllegalStateException",
        "public int lowest()",
        "public long matters(int int) throws IndexOutOfBoundsException",
        "public int sweep(int) throws IllegalArgumentException IllegalStateException",
        "public int count(int)"};
    private static final String[] RULED_OUT = {"import ", "package ", "catch", "try ", "finally", "->", "::", "synchronized",
        "assert", "Exact(", "System.out", "Random", "static {", "hashCode", "equals(", "toString", "Arrays.sort"};

    private static int wrong = 0;

    private static void fault(String text) {
        wrong++;
        System.out.println(text);
    }

    private static String names(Class<?>[] types) {
        StringBuilder out = new StringBuilder();
        for (Class<?> type : types) {
            out.append(out.length() == 0 ? "" : " ").append(type.getSimpleName());
        }
        return out.toString();
    }

    private static Set<String> visibleMembers() {
        Set<String> seen = new TreeSet<>();
        for (Field f : DesignSpaces.class.getDeclaredFields()) {
            if (!Modifier.isPrivate(f.getModifiers())) {
                seen.add("field " + Modifier.toString(f.getModifiers()) + " " + f.getType() + " " + f.getName());
            }
        }
        for (Constructor<?> c : DesignSpaces.class.getDeclaredConstructors()) {
            seen.add("constructor " + Modifier.toString(c.getModifiers()) + " (" + names(c.getParameterTypes()) + ")");
        }
        for (Method m : DesignSpaces.class.getDeclaredMethods()) {
            if (!Modifier.isPrivate(m.getModifiers())) {
                String thrown = names(m.getExceptionTypes());
                seen.add(Modifier.toString(m.getModifiers()) + " " + m.getReturnType() + " " + m.getName() + "("
                    + names(m.getParameterTypes()) + ")" + (thrown.isEmpty() ? "" : " throws " + thrown));
            }
        }
        return seen;
    }

    private static void checkFace() {
        Set<String> due = new TreeSet<>(Arrays.asList(FACE));
        Set<String> seen = visibleMembers();
        for (String member : due) {
            if (!seen.contains(member)) {
                fault("not there: " + member);
            }
        }
        for (String member : seen) {
            if (!due.contains(member)) {
                fault("not in the face: " + member);
            }
        }
        if (!Modifier.isFinal(DesignSpaces.class.getModifiers()) || !Modifier.isPublic(DesignSpaces.class.getModifiers())) {
            fault("the class is not public and final");
        }
    }

    private static void checkClassesInside() {
        Set<String> publicNames = new TreeSet<>();
        for (Method m : DesignSpaces.class.getMethods()) {
            publicNames.add(m.getName());
        }
        Class<?>[] inside = DesignSpaces.class.getDeclaredClasses();
        if (inside.length > 11) {
            fault("too many classes: " + inside.length);
        }
        for (Class<?> c : inside) {
            if (!Modifier.isStatic(c.getModifiers()) || Modifier.isPublic(c.getModifiers())) {
                fault("not a hidden static class: " + c.getName());
            }
            for (Method m : c.getDeclaredMethods()) {
                if (publicNames.contains(m.getName())) {
                    fault(c.getName() + " has a method with a name of the face: " + m.getName());
                }
            }
            for (Field f : c.getDeclaredFields()) {
                if (Modifier.isStatic(f.getModifiers())) {
                    fault("static state: " + f);
                }
            }
        }
    }

    private static void checkText() throws Exception {
        String text = Files.readString(Path.of("src/main/java/DesignSpaces.java"));
        for (String word : RULED_OUT) {
            if (text.contains(word)) {
                fault("the text holds what LANGUAGE.md leaves out: " + word);
            }
        }
    }

    public static void main(String[] args) throws Exception {
        checkFace();
        checkClassesInside();
        checkText();
        System.out.println("FaceTest: " + wrong + " wrong");
        if (wrong != 0) {
            System.exit(1);
        }
    }
}
