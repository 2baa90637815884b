import java.util.Arrays;

/** Two objects of the same calls: what one more call changed, by all that can be asked of both. */
final class Twins {
    interface Call {
        long on(OneFiddle x);
    }

    private Twins() {
    }

    /** An object of which everything was told, with nights, something to undo, both kept, a ROW and THE TEXT "abd". */
    static OneFiddle busy() {
        OneFiddle x = Check.with("v3;v6;v0;v9;rab10;rbc15;rac30;rbc40",
            "b0-2$9*5;c1-3$20*9;a2-2$7*4;b2-3$4*8;a4-9$30*9;c20-30$1*1");
        Check.rule(x, "m/3+t-f/4+d/9");
        Check.tune(x, "abc", 0);
        Check.tune(x, "abd", 1);
        Check.tune(x, "bd", 2);
        x.set(0, 19);
        x.set(1, 7);
        x.set(2, 12);
        x.set(3, 14);
        x.stay(1);
        x.keep(0);
        x.night(1);
        x.night(2);
        x.keep(1);
        x.stay(1);
        x.move(5, -2);
        x.round(4);
        Check.tell(x, "abd");
        return x;
    }

    /** The call answers so and changes nothing, not even the ROW. */
    static void refuses(String what, long want, Call call) {
        OneFiddle x = busy();
        OneFiddle y = busy();
        Check.due(what, call.on(x), want);
        alike(what, x, y);
    }

    /** The call that reads a text answers so, empties THE TEXT and changes nothing else, not even the ROW. */
    static void refusesText(String what, long want, String text, Call call) {
        OneFiddle x = Check.tell(busy(), text);
        OneFiddle y = busy();
        Check.due(what + " of '" + text + "'", call.on(x), want);
        Check.due(what + " of '" + text + "' empties THE TEXT", x.count(14), 0);
        y.end(0);
        alike(what + " of '" + text + "'", x, y);
    }

    /** The call answers something and changes nothing but the ROW. */
    static void asks(String what, Call call) {
        OneFiddle x = busy();
        OneFiddle y = busy();
        Check.due(what + " is answered", call.on(x) >= 0, true);
        x.far(0, 0);
        y.far(0, 0);
        alike(what, x, y);
    }

    static void alike(String what, OneFiddle x, OneFiddle y) {
        String one = allOf(x);
        String other = allOf(y);
        Check.due(what + " changes nothing (" + firstUnlike(one, other) + ")", one.equals(other), true);
    }

    private static String firstUnlike(String one, String other) {
        String[] a = one.split("\n");
        String[] b = other.split("\n");
        for (int k = 0; k < Math.min(a.length, b.length); k++) {
            if (!a[k].equals(b[k])) {
                return a[k] + " / " + b[k];
            }
        }
        return "";
    }

    /** All that can be asked of an object; nothing of it is left as it was. */
    private static String allOf(OneFiddle x) {
        StringBuilder told = new StringBuilder();
        told.append("state ").append(Check.stateOf(x)).append('\n');
        add(told, x, "text", x.got());
        places(told, x);
        rounds(told, x);
        add(told, x, "differ", x.differ(0, 1) * 100 + x.differ(1, 2));
        add(told, x, "whence", x.whence());
        add(told, x, "tree", x.tree());
        add(told, x, "kinds", x.kinds(99));
        add(told, x, "years", x.years(5, 60));
        for (int k = 0; k < 14; k++) {
            add(told, x, "undo", x.undo());
            told.append(Check.stateOf(x)).append('\n');
        }
        for (int i = 0; i < 2; i++) {
            add(told, x, "again", x.again(i) ? 1 : 0);
            told.append(Check.stateOf(x)).append('\n');
        }
        add(told, x, "reach", x.set(0, 20));
        add(told, x, "moon", x.set(1, 0));
        add(told, x, "lent from", x.set(2, 99));
        add(told, x, "lent to", x.set(3, 0));
        return told.toString();
    }

    private static void places(StringBuilder told, OneFiddle x) {
        add(told, x, "reach()", x.reach());
        for (int v = 0; v < x.count(0); v++) {
            for (int what = 0; what < 4; what++) {
                add(told, x, "village " + v + " " + what, x.village(v, what));
            }
            add(told, x, "comes " + v, x.comes(v));
            for (int w = 0; w < x.count(0); w++) {
                add(told, x, "far " + v + " " + w, x.far(v, w));
            }
        }
    }

    private static void rounds(StringBuilder told, OneFiddle x) {
        add(told, x, "round", x.round(6));
        add(told, x, "richest", x.richest(10));
        add(told, x, "clash", x.clash());
        add(told, x, "longer", x.longer(10));
        add(told, x, "learns", x.learns(10));
        add(told, x, "second", x.second(0, 6));
        for (int k = 0; k < x.count(2); k++) {
            add(told, x, "all " + k, x.all(1 << k));
            add(told, x, "worth " + k, x.worth(k, 10));
        }
    }

    private static void add(StringBuilder told, OneFiddle x, String what, long answer) {
        told.append(what).append(' ').append(answer).append(' ').append(Arrays.toString(Check.rowOf(x))).append('\n');
    }
}
