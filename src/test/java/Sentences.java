import java.lang.annotation.ElementType;
import java.lang.annotation.Retention;
import java.lang.annotation.RetentionPolicy;
import java.lang.annotation.Target;
import java.lang.reflect.InvocationTargetException;
import java.lang.reflect.Method;
import java.nio.file.Files;
import java.nio.file.Path;
import java.util.ArrayList;
import java.util.Arrays;
import java.util.Comparator;
import java.util.List;
import java.util.function.Function;
import java.util.function.Supplier;

/**
 * What the tests of the document's sentences share: each test says by Says whose sentence it is for, and the tests
 * of a class are held against the document, so that no sentence of it is without one.
 */
abstract class Sentences {
    /** Which sentence a test is for, in the document's words; promise 0 stands for the sections before the promises. */
    @Retention(RetentionPolicy.RUNTIME)
    @Target(ElementType.METHOD)
    @interface Says {
        int promise() default 0;
        String text();
    }

    static final int NONE = DesignSpaces.NONE;
    static final int MIN = Integer.MIN_VALUE;
    static final int MAX = Integer.MAX_VALUE;
    static final String BOUNDS = "IndexOutOfBoundsException";
    static final String ARGUMENT = "IllegalArgumentException";
    static final String STATE = "IllegalStateException";
    static final String UNSUPPORTED = "UnsupportedOperationException";

    private static final Path DOCUMENT = Path.of("../shared/DOC.md");
    /** Each design takes six calls of a portrait, and an object has 512. */
    private static final int MOST_IN_PORTRAIT = 24;

    private static final List<String> faults = new ArrayList<>();
    private static int checks = 0;
    private static String place = "";

    static void is(Object got, Object due) {
        checks++;
        if (!String.valueOf(got).equals(String.valueOf(due))) {
            faults.add(place + " (line " + lineOfTest() + "): answered " + got + ", due is " + due);
        }
    }

    private static int lineOfTest() {
        for (StackTraceElement e : new Throwable().getStackTrace()) {
            if (!e.getClassName().equals(Sentences.class.getName())) {
                return e.getLineNumber();
            }
        }
        return 0;
    }

    /** The very class counts: what the machine itself throws is a class below the document's. */
    static void fails(String exception, Supplier<Object> call) {
        Object got;
        try {
            got = call.get();
        } catch (RuntimeException e) {
            got = "throws " + e.getClass().getName();
        }
        is(got, "throws java.lang." + exception);
    }

    /** The call throws, and later calls answer as they do on a twin that never had it. */
    static void refused(String exception, Supplier<DesignSpaces> made, Function<DesignSpaces, Object> call) {
        DesignSpaces x = made.get();
        fails(exception, () -> call.apply(x));
        is(portrait(x), portrait(made.get()));
    }

    static DesignSpaces space(int... sizes) {
        DesignSpaces x = new DesignSpaces(1);
        for (int size : sizes) {
            x.choice(size);
        }
        return x;
    }

    /** Two choices of 2 and 3 values with something of everything behind it, design 5 illegal, the sweep on its way. */
    static DesignSpaces used() {
        DesignSpaces x = space(2, 3);
        x.term(0, 0, 1, NONE, 0, 4);
        x.term(1, 0, 1, 1, 1, -6);
        x.term(2, 1, 0, NONE, 0, 3);
        x.rule(0, 1, 1, 2);
        x.limit(2, true, 3);
        x.slack(2);
        x.walk(3, 7);
        x.best(1);
        x.sweep(2);
        return x;
    }

    /** All that calls tell of an object, first by those that change nothing, then by those that go on from its state. */
    static String portrait(DesignSpaces x) {
        StringBuilder out = new StringBuilder();
        for (int what = 0; what <= 8; what++) {
            out.append(x.count(what)).append(' ');
        }
        out.append("looked ").append(x.looked()).append(" lowest ").append(x.lowest());
        out.append(" front ").append(front(x)).append(" designs");
        int shown = Math.min(x.count(1), MOST_IN_PORTRAIT);
        int start = NONE;
        for (int design = 0; design < shown; design++) {
            out.append(' ').append(x.legal(design));
            for (int n = 0; n < 4; n++) {
                out.append(' ').append(x.number(design, n));
            }
            start = start == NONE && x.legal(design) ? design : start;
        }
        goOn(x, start, out);
        return out.toString();
    }

    private static void goOn(DesignSpaces x, int start, StringBuilder out) {
        for (int n = 0; n < 4; n++) {
            out.append(" bound ").append(x.bound(n, 0, 0)).append(" best ").append(x.best(n)).append(' ').append(x.looked());
        }
        for (int c = 0; c < x.count(0); c++) {
            out.append(" matters ").append(x.matters(c, 0)).append(' ').append(x.matters(c, 1));
        }
        if (x.count(6) != NONE) {
            out.append(" swept ").append(x.sweep(1)).append(' ').append(x.count(6)).append(' ').append(x.count(7));
        }
        for (int i = 0; i < 10 && start != NONE && x.count(0) > 0; i++) {
            out.append(" walked ").append(x.walk(start, 1));
        }
        out.append(" slack ").append(x.slack(0));
        for (int n = 0; n < 4; n++) {
            out.append(" limited ").append(x.limit(n, false, 0));
        }
    }

    /** The undominated designs, the first few of many. */
    static String front(DesignSpaces x) {
        int size = x.undominated();
        StringBuilder out = new StringBuilder().append(size).append(':');
        for (int k = 0; k < size && k < MOST_IN_PORTRAIT; k++) {
            out.append(' ').append(x.at(k));
        }
        return out.toString();
    }

    static String legalOnes(DesignSpaces x) {
        StringBuilder out = new StringBuilder();
        for (int design = 0; design < x.count(1); design++) {
            out.append(x.legal(design) ? 1 : 0);
        }
        return out.toString();
    }

    static String numbers(DesignSpaces x, int number) {
        StringBuilder out = new StringBuilder();
        for (int design = 0; design < x.count(1); design++) {
            out.append(design == 0 ? "" : " ").append(x.number(design, number));
        }
        return out.toString();
    }

    /** Gives each value of choice 0 its own part of a number. */
    static void weigh(DesignSpaces x, int number, int... weights) {
        for (int v = 0; v < weights.length; v++) {
            x.term(number, 0, v, NONE, 0, weights[v]);
        }
    }

    /** Runs all tests of a class, holds them against the sentences they are for, and ends with exit code 1 on a fault. */
    static void runAll(Class<?> tests, List<String> sections) throws Exception {
        Method[] methods = Arrays.stream(tests.getDeclaredMethods())
                .filter(m -> m.isAnnotationPresent(Says.class))
                .sorted(Comparator.comparing((Method m) -> m.getAnnotation(Says.class).promise()).thenComparing(Method::getName))
                .toArray(Method[]::new);
        for (Method test : methods) {
            Says says = test.getAnnotation(Says.class);
            place = test.getName() + ", promise " + says.promise() + ", \"" + says.text() + "\"";
            int before = checks;
            test.setAccessible(true);
            try {
                test.invoke(null);
            } catch (InvocationTargetException e) {
                faults.add(place + ": the test ended by " + e.getCause());
            }
            if (checks == before) {
                faults.add(place + ": the test checks nothing");
            }
        }
        holdAgainstDocument(methods, sections);
        faults.forEach(System.out::println);
        System.out.println(tests.getName() + ": " + methods.length + " tests, " + checks + " checks, "
                + faults.size() + " wrong");
        if (!faults.isEmpty()) {
            System.exit(1);
        }
    }

    /** Each sentence of these sections has a test, and each test is for words that stand in one of the sentences. */
    private static void holdAgainstDocument(Method[] tests, List<String> sections) throws Exception {
        List<Method> placed = new ArrayList<>();
        for (String section : sections) {
            int promise = section.startsWith("Promise ") ? Integer.parseInt(section.substring(8)) : 0;
            List<String> sentences = sentencesOf(section);
            if (sentences.isEmpty()) {
                faults.add("the document has no sentences in " + section);
            }
            for (String sentence : sentences) {
                List<Method> own = Arrays.stream(tests).filter(t -> isFor(t, promise, sentence)).toList();
                placed.addAll(own);
                if (own.isEmpty()) {
                    faults.add("no test is for this sentence of " + section + ": " + sentence);
                }
            }
        }
        for (Method test : tests) {
            if (!placed.contains(test)) {
                faults.add(test.getName() + " is for words that the document does not have there");
            }
        }
    }

    private static boolean isFor(Method test, int promise, String sentence) {
        Says says = test.getAnnotation(Says.class);
        return says.promise() == promise && sentence.contains(says.text());
    }

    /** A section's sentences, and the parts of one that semicolons divide, without the method that it is about. */
    private static List<String> sentencesOf(String section) throws Exception {
        StringBuilder text = new StringBuilder();
        boolean inside = false;
        for (String line : Files.readAllLines(DOCUMENT)) {
            if (line.startsWith("## ")) {
                inside = line.equals("## " + section) || line.startsWith("## " + section + ":");
            } else if (inside && !line.startsWith("```")) {
                text.append(line.replaceFirst("^`.*?`: ", "").trim()).append('\n');
            }
        }
        return split(text.toString());
    }

    private static List<String> split(String text) {
        List<String> parts = new ArrayList<>();
        int open = 0;
        int from = 0;
        for (int i = 0; i < text.length(); i++) {
            char c = text.charAt(i);
            open += c == '(' ? 1 : c == ')' ? -1 : 0;
            boolean ends = (c == '.' || c == ';') && i + 1 < text.length() && Character.isWhitespace(text.charAt(i + 1));
            if (open == 0 && ends && text.charAt(i - 1) != '.') {
                parts.add(text.substring(from, i).trim());
                from = i + 1;
            }
        }
        return parts;
    }
}
