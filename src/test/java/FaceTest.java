import java.io.IOException;
import java.lang.reflect.InvocationTargetException;
import java.lang.reflect.Member;
import java.lang.reflect.Method;
import java.lang.reflect.Modifier;
import java.nio.file.Files;
import java.nio.file.Path;
import java.util.ArrayList;
import java.util.Arrays;
import java.util.Comparator;
import java.util.List;
import java.util.NoSuchElementException;
import java.util.Random;
import java.util.Set;
import java.util.TreeSet;

/** The face is the document's; no call throws but as it says; the source keeps to what can be seen of the rules. */
public final class FaceTest {
    private static final String FACE = "int sign(int) boolean end(int) int hills() int feasts() int rule() int village(int,int) "
        + "int feast(int,int) int set(int,int) int sheet(int,int,int,int) int night(int) int stay(int) int mend() "
        + "int move(int,int) int season() int undo() int far(int,int) int reach() int comes(int) int round(int) "
        + "int richest(int) int all(int) int clash() int worth(int,int) int longer(int) int learns(int) int second(int,int) "
        + "int tune(int) int hush() int differ(int,int) int whence() int tree() int got() int breaks(int,int) "
        + "int bids(int,int,int) int kinds(int) int years(int,int) boolean keep(int) boolean again(int) int count(int) "
        + "long row(int)";
    private static final Set<String> MAY_THROW = Set.of("village", "feast", "row");
    private static final int[] EDGES = {0, 1, 2, 3, 4, 5, 6, 7, 8, 9, 10, 11, 12, 13, -1, -2, 30, 31, 32, 33, 60, 61, 63, 64, 76, 80,
        81, 99, 100, 255, 256, 65535, Integer.MAX_VALUE, Integer.MIN_VALUE, Integer.MAX_VALUE - 1, -9, -10, 0x76353b76, 0x67613b6d,
        0x7a393b7a, 0x72616239, 0x61302d39, 0x24392a39, 0x6d2a6d2a, 0x28282828, 0x2d2d2d2d, 0x61616161, 0x3b3b3b3b};

    public static void main(String[] args) throws Exception {
        face();
        source();
        rooms();
        readme();
        anyCalls();
        Check.end("FaceTest");
    }

    private static String told(Method m) {
        StringBuilder parameters = new StringBuilder();
        for (Class<?> p : m.getParameterTypes()) {
            parameters.append(parameters.length() > 0 ? "," : "").append(p.getSimpleName());
        }
        return m.getReturnType().getSimpleName() + " " + m.getName() + "(" + parameters + ")";
    }

    private static void face() throws Exception {
        Class<?> c = OneFiddle.class;
        Set<String> due = new TreeSet<>(Arrays.asList(FACE.split("(?<=\\)) ")));
        Set<String> got = new TreeSet<>();
        Set<String> names = new TreeSet<>();
        List<Member> rest = new ArrayList<>(Arrays.asList(c.getDeclaredFields()));
        for (Method m : c.getDeclaredMethods()) {
            if (Modifier.isPublic(m.getModifiers())) {
                got.add(told(m));
                names.add(m.getName());
                Class<?>[] thrown = MAY_THROW.contains(m.getName()) ? new Class<?>[] {NoSuchElementException.class} : new Class<?>[0];
                Check.due(m + " tells what it throws", Arrays.equals(m.getExceptionTypes(), thrown), true);
            } else {
                rest.add(m);
            }
        }
        // behind the loop, for the methods come in any order
        for (Member m : rest) {
            Check.due(m + " bears no public name", m instanceof Method && names.contains(m.getName()), false);
        }
        Check.due("the methods " + got, got.equals(due), true);
        for (Member m : rest) {
            boolean constant = m.getName().equals("NONE");
            Check.due(m + " is private", Modifier.isPrivate(m.getModifiers()), !constant);
        }
        Check.due("one constructor", c.getDeclaredConstructors().length, 1);
        Check.due("final", Modifier.isFinal(c.getModifiers()) && Modifier.isPublic(c.getModifiers()), true);
        Check.due("NONE", c.getDeclaredField("NONE").getInt(null), -1);
        Check.due("some twelve classes", c.getDeclaredClasses().length <= 12, true);
        for (Class<?> inner : c.getDeclaredClasses()) {
            Check.due(inner + " is static", Modifier.isStatic(inner.getModifiers()), true);
            Check.due(inner + " has some twenty fields", inner.getDeclaredFields().length <= 24, true);
            for (Method m : inner.getDeclaredMethods()) {
                Check.due(m + " bears no public name", names.contains(m.getName()), false);
            }
        }
    }

    private static void source() throws IOException {
        Path path = Path.of("src/main/java/OneFiddle.java");
        List<String> lines = Files.readAllLines(path);
        String[] ruledOut = {"->", "::", "synchronized", "assert ", "finally", "catch", "Exact", "System.out", "Object", "instanceof",
            "RuntimeException", "protected", "\" +", "+ \"", "while (true)", "for (;"};
        int begun = 0;
        for (int k = 0; k < lines.size(); k++) {
            String line = lines.get(k);
            String where = "line " + (k + 1) + ": " + line;
            Check.due(where + " is of 127 signs", line.chars().allMatch(s -> s >= 32 && s < 127), true);
            for (String word : ruledOut) {
                Check.due(where + " has " + word, line.contains(word), false);
            }
            if (line.matches(" {4,8}[a-zA-Z].*\\) .*\\{")) {
                begun = k;
            }
            if (line.matches(" {4,8}\\}")) {
                Check.due(where + " ends some sixty lines", begun == 0 || k - begun <= 60, true);
                begun = 0;
            }
        }
    }

    /** Nothing is made but by constructors and fields, and the exceptions: rule 12, and the one room of all calls. */
    private static void rooms() throws IOException {
        boolean constructs = false;
        for (String line : Files.readAllLines(Path.of("src/main/java/OneFiddle.java"))) {
            if (line.matches(" {4,8}(public )?[A-Z]\\w*\\(.*\\) \\{")) {
                constructs = true;
            } else if (line.matches(" {4,8}\\}")) {
                constructs = false;
            }
            String code = line.replaceFirst("^ *(/?\\*|//).*$", "");
            if (code.matches(".*\\bnew\\b.*")) {
                boolean may = constructs || code.matches(" +private final \\S+ \\w+ = new .*;")
                    || code.equals("            throw new NoSuchElementException();");
                Check.due(line + " makes something", may, true);
            }
            if (code.startsWith("import")) {
                Check.due(line, code.equals("import java.util.NoSuchElementException;"), true);
            }
            String rest = code.replaceAll("\\bMath\\.(min|max)\\(|\\bInteger\\.bitCount\\(", "");
            Check.due(line + " uses another library", rest.matches(".*\\b(Math|Integer|Long|System|Arrays|String)\\..*"), false);
        }
    }

    /** What README.md shows. */
    private static void readme() {
        OneFiddle x = new OneFiddle();
        Check.due("README: sign()", x.sign(0x76333b76), 4);
        Check.due("README: sign()", x.sign(0x363b7261), 8);
        Check.due("README: sign()", x.sign(0x62313000), 12);
        Check.due("README: end(11)", x.end(11), true);
        Check.due("README: hills()", x.hills(), 3);
        Check.due("README: night(1)", x.night(1), 0);
        Check.due("README: row(1)", x.row(1), 10);
    }

    private static void anyCalls() throws IllegalAccessException {
        Method[] methods = OneFiddle.class.getDeclaredMethods();
        methods = Arrays.stream(methods).filter(m -> Modifier.isPublic(m.getModifiers()))
            .sorted(Comparator.comparing(Method::getName)).toArray(Method[]::new);
        for (int seed = 0; seed < 600; seed++) {
            Random random = new Random(seed);
            OneFiddle one = new OneFiddle();
            OneFiddle other = new OneFiddle();
            if (seed % 3 > 0) {
                for (OneFiddle x : new OneFiddle[] {one, other}) {
                    Check.hills(x, "v3;v6;v0;v9;v1;v2;v4;v5;v7;rab10;rbc5;rac9;rde12;rcd3;ref9;rfg9;rgh9;rhi9");
                    Check.feasts(x, "a0-2$9*9;b1-3$20*9;c2-2$7*9;d2-5$4*8;e3-9$5*9;f5-6$7*9;g3-7$9*9");
                }
            }
            for (int k = 0; k < 480; k++) {
                Method m = methods[random.nextInt(methods.length)];
                Object[] given = new Object[m.getParameterCount()];
                for (int j = 0; j < given.length; j++) {
                    given[j] = random.nextInt(4) == 0 ? random.nextInt() : EDGES[random.nextInt(random.nextBoolean() ? 10 : EDGES.length)];
                }
                String what = "seed " + seed + ", call " + k + " " + m.getName() + Arrays.toString(given);
                Object a = answer(what, m, one, given);
                Object b = answer(what, m, other, given);
                Check.due(what + " is alike", a.equals(b), true);
            }
        }
    }

    private static Object answer(String what, Method m, OneFiddle x, Object[] given) throws IllegalAccessException {
        try {
            return m.invoke(x, given);
        } catch (InvocationTargetException e) {
            boolean may = MAY_THROW.contains(m.getName()) && e.getCause() instanceof NoSuchElementException;
            Check.due(what + " threw " + e.getCause(), may, true);
            return "";
        }
    }
}
