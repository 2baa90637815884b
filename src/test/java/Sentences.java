import java.io.IOException;
import java.lang.reflect.InvocationTargetException;
import java.lang.reflect.Method;
import java.nio.file.Files;
import java.nio.file.Path;
import java.util.ArrayList;
import java.util.Arrays;
import java.util.Comparator;
import java.util.HashMap;
import java.util.List;
import java.util.Map;

/**
 * Runs the tests of a class that bear words of the document, and looks whether these stand where the test's name says,
 * and whether a section's words are all borne by some test.
 */
final class Sentences {
    private static final Path DOCUMENT = Path.of("../shared/DOC.md");

    private Sentences() {
    }

    static void run(Class<?> tests, String... sections) throws Exception {
        List<Method> methods = new ArrayList<>();
        for (Method m : tests.getDeclaredMethods()) {
            if (m.isAnnotationPresent(Says.class)) {
                methods.add(m);
            }
        }
        methods.sort(Comparator.comparing(Method::getName));
        for (Method m : methods) {
            runOne(m);
        }
        if (Files.exists(DOCUMENT)) {
            compare(methods, sections);
        }
        Check.end(tests.getName() + " of " + methods.size() + " tests");
    }

    private static void runOne(Method m) throws IllegalAccessException {
        int before = Check.asked();
        Check.begin(m.getName() + " (" + m.getAnnotation(Says.class).value() + ")");
        try {
            m.setAccessible(true);
            m.invoke(null);
        } catch (InvocationTargetException e) {
            Check.wrong("threw " + e.getCause());
        }
        if (Check.asked() == before) {
            Check.wrong("asks nothing");
        }
        Check.begin("");
    }

    private static String sectionOf(Method m) {
        return m.getName().replaceFirst("^(t\\d|p\\d\\d).*$", "$1");
    }

    private static void compare(List<Method> methods, String[] sections) throws IOException {
        Map<String, String> document = sections(Files.readString(DOCUMENT));
        Map<String, boolean[]> borne = new HashMap<>();
        for (Map.Entry<String, String> section : document.entrySet()) {
            borne.put(section.getKey(), new boolean[section.getValue().length()]);
        }
        for (Method m : methods) {
            String section = sectionOf(m);
            String words = m.getAnnotation(Says.class).value();
            int at = document.getOrDefault(section, "").indexOf(words);
            Check.due(m.getName() + ": the document says there '" + words + "'", at >= 0, true);
            if (at >= 0) {
                Arrays.fill(borne.get(section), at, at + words.length(), true);
            }
        }
        for (String section : sections) {
            String rest = document.containsKey(section) ? rest(document.get(section), borne.get(section)) : "all";
            Check.due(section + " has words that no test bears: " + rest, rest.isEmpty(), true);
        }
    }

    /** What no test bears, but for signs between words. */
    private static String rest(String text, boolean[] borne) {
        StringBuilder rest = new StringBuilder();
        for (int k = 0; k < text.length(); k++) {
            boolean bare = k >= borne.length || !borne[k];
            rest.append(bare ? text.charAt(k) : ' ');
        }
        String left = rest.toString().replaceAll(" +", " ").trim();
        return left.matches(".*[a-zA-Z0-9].*") ? left : "";
    }

    /** What it is (t0), the terms (t1, t2), the promises (p01 ..) without their signatures: their words with single spaces. */
    private static Map<String, String> sections(String document) {
        Map<String, String> found = new HashMap<>();
        found.put("t0", plain(between(document, "\n## What it is\n", "\n## ")));
        String terms = between(document, "\n## Terms\n", "\nAhead of the calls");
        found.put("t1", plain(between(terms, "1. ", "\n2. ")));
        found.put("t2", plain(between(terms, "\n2. ", "\u0000")));
        for (int k = 1; k <= 41; k++) {
            String body = between(document, "\n## Promise " + k + ": ", "\n## ");
            found.put(String.format("p%02d", k), plain(between(body, "`: ", "\u0000")));
        }
        return found;
    }

    private static String between(String text, String first, String last) {
        int from = text.indexOf(first);
        if (from < 0) {
            return "";
        }
        int to = text.indexOf(last, from + first.length());
        return text.substring(from + first.length(), to < 0 ? text.length() : to);
    }

    private static String plain(String text) {
        return text.replaceAll("```(text)?", " ").replaceAll("\\s+", " ").trim();
    }
}
