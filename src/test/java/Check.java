import java.util.Arrays;
import java.util.NoSuchElementException;

/** What the tests share: telling texts to an object, and counting answers that are not due. */
class Check {
    interface Asked {
        long answer();
    }

    private static int asked = 0;
    private static int wrong = 0;
    /** Printed ahead of what is wrong: the test that asks. */
    private static String test = "";

    static int asked() {
        return asked;
    }

    static void begin(String name) {
        test = name.isEmpty() ? "" : name + ": ";
    }

    static void wrong(String why) {
        wrong++;
        System.out.println(test + why);
    }

    static void due(String what, long got, long want) {
        asked++;
        if (got != want) {
            wrong(what + ": answered " + got + ", due is " + want);
        }
    }

    static void due(String what, boolean got, boolean want) {
        due(what, got ? 1 : 0, want ? 1 : 0);
    }

    static void throwsNone(String what, Asked call) {
        asked++;
        String got;
        try {
            got = "answered " + call.answer();
        } catch (NoSuchElementException e) {
            return;
        } catch (RuntimeException e) {
            got = "threw " + e;
        }
        wrong(what + ": " + got + ", due is NoSuchElementException");
    }

    /** The whole ROW, and that there is nothing behind it. */
    static void row(String what, OneFiddle x, long... want) {
        long[] got = rowOf(x);
        asked++;
        if (!Arrays.equals(got, want)) {
            wrong(what + ": ROW " + Arrays.toString(got) + ", due is " + Arrays.toString(want));
        }
        throwsNone(what + ": row(" + want.length + ")", () -> x.row(want.length));
        throwsNone(what + ": row(-1)", () -> x.row(-1));
    }

    static long[] rowOf(OneFiddle x) {
        long[] got = new long[x.count(13)];
        for (int i = 0; i < got.length; i++) {
            got[i] = x.row(i);
        }
        return got;
    }

    /** Puts a text of at most 80 signs in the place of THE TEXT. */
    static OneFiddle tell(OneFiddle x, String text) {
        x.end(0);
        for (int at = 0; at < text.length(); at += 4) {
            int v = 0;
            for (int k = at; k < at + 4; k++) {
                v = v << 8 | (k < text.length() ? text.charAt(k) : 0);
            }
            x.sign(v);
        }
        due("end(" + text.length() + ")", x.end(text.length()), true);
        return x;
    }

    static int hills(OneFiddle x, String text) {
        return tell(x, text).hills();
    }

    static int feasts(OneFiddle x, String text) {
        return tell(x, text).feasts();
    }

    static int rule(OneFiddle x, String text) {
        return tell(x, text).rule();
    }

    static int season(OneFiddle x, String text) {
        return tell(x, text).season();
    }

    static int tune(OneFiddle x, String text, int village) {
        return tell(x, text).tune(village);
    }

    static int got(OneFiddle x, String text) {
        return tell(x, text).got();
    }

    /** A new object with THE HILLS and FEASTS told. */
    static OneFiddle with(String hills, String feasts) {
        OneFiddle x = new OneFiddle();
        if (hills(x, hills) < 0 || feasts(x, feasts) < 0) {
            due("with " + hills + " " + feasts, 0, 1);
        }
        return x;
    }

    /** All that can be asked of an object without changing it: two alike answer alike. */
    static String stateOf(OneFiddle x) {
        StringBuilder told = new StringBuilder();
        for (int what = 0; what <= 14; what++) {
            told.append(x.count(what)).append(' ');
        }
        for (int k = 0; k < x.count(2); k++) {
            for (int what = 0; what <= 6; what++) {
                told.append(x.feast(k, what)).append(',');
            }
        }
        return told.append(Arrays.toString(rowOf(x))).toString();
    }

    static void end(String name) {
        System.out.println(name + ": " + asked + " asked, " + wrong + " not as due");
        if (wrong != 0 || asked == 0) {
            System.exit(1);
        }
    }
}
