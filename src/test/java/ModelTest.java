import java.util.Arrays;
import java.util.NoSuchElementException;
import java.util.Random;

/** Runs of calls drawn by a seed, each answer and all that can be seen behind it against the Model. */
public final class ModelTest {
    private static final int RUNS = 400;
    private static final int CALLS = 512;

    private final Random random;
    private final OneFiddle x = new OneFiddle();
    private final Model model = new Model();
    private final String name;
    private int calls = 0;
    private boolean right = true;

    private ModelTest(int seed) {
        random = new Random(seed);
        name = "run " + seed;
    }

    public static void main(String[] args) {
        int runs = args.length > 0 ? Integer.parseInt(args[0]) : RUNS;
        for (int seed = 1; seed <= runs; seed++) {
            new ModelTest(seed).run();
        }
        Check.end("ModelTest");
    }

    private void run() {
        tellAll();
        while (calls < CALLS - 3 && right) {
            one();
        }
    }

    private void due(String what, long got, long want) {
        calls++;
        if (got != want) {
            right = false;
        }
        Check.due(name + ", call " + calls + " " + what, got, want);
        String after = name + " behind " + what + ": ";
        for (int k = 0; k <= 14; k++) {
            Check.due(after + "count(" + k + ")", x.count(k), model.count(k));
            right &= x.count(k) == model.count(k);
        }
        boolean same = Arrays.equals(Check.rowOf(x), model.row);
        Check.due(after + "ROW " + Arrays.toString(Check.rowOf(x)) + " for " + Arrays.toString(model.row), same, true);
        right &= same;
    }

    private void due(String what, boolean got, boolean want) {
        due(what, got ? 1 : 0, want ? 1 : 0);
    }

    private void dueOrNone(String what, Check.Asked asked, Long want) {
        Long got;
        try {
            got = asked.answer();
        } catch (NoSuchElementException e) {
            got = null;
        }
        due(what + " throws", got == null, want == null);
        if (got != null && want != null) {
            due(what, got, want);
        }
    }

    private int draw(int n) {
        return random.nextInt(n);
    }

    /** A number from 0 to n, seldom another one. */
    private int near(int n) {
        int kind = draw(30);
        if (kind == 0) {
            return -1 - draw(3);
        }
        if (kind == 1) {
            return n + 1 + draw(3);
        }
        if (kind == 2) {
            return random.nextInt();
        }
        return draw(n + 1);
    }

    private void tell(String text) {
        due("end(0)", x.end(0), model.end(0));
        for (int at = 0; at < text.length(); at += 4) {
            int v = 0;
            for (int k = at; k < at + 4; k++) {
                v = v << 8 | (k < text.length() ? text.charAt(k) & 255 : draw(256));
            }
            due("sign", x.sign(v), model.sign(v));
        }
        due("end", x.end(text.length()), model.end(text.length()));
    }

    private void tellAll() {
        tell(hillsText(3 + draw(10)));
        due("hills()", x.hills(), model.hills());
        tell(feastsText(2 + draw(5)));
        due("feasts()", x.feasts(), model.feasts());
    }

    // ---- texts, now and then with a sign changed, put in or left out

    private String ill(String text, int seldom) {
        String signs = "vrzgmtfdns0123456789abcdefghij;-$*()+/<>=x\u00ff";
        StringBuilder s = new StringBuilder(text);
        while (draw(seldom) == 0) {
            int at = draw(s.length() + 1);
            int kind = draw(3);
            if (kind == 0 || s.length() == 0) {
                s.insert(at, signs.charAt(draw(signs.length())));
            } else if (kind == 1) {
                s.deleteCharAt(Math.min(at, s.length() - 1));
            } else {
                s.setCharAt(Math.min(at, s.length() - 1), signs.charAt(draw(signs.length())));
            }
        }
        return s.length() > 80 ? s.substring(0, 80) : s.toString();
    }

    private String number(int most) {
        int n = draw(most + 1);
        return n < 10 && draw(4) == 0 ? "0" + n : "" + n;
    }

    private String hillsText(int lines) {
        StringBuilder s = new StringBuilder();
        int villages = model.count(0);
        for (int k = 0; k < lines; k++) {
            s.append(k == 0 ? "" : ";");
            if (villages < 2 || villages < 9 && draw(3) == 0) {
                s.append('v').append(draw(10));
                villages++;
            } else {
                int a = draw(villages);
                int b = (a + 1 + draw(villages - 1)) % villages;
                s.append('r').append((char) ('a' + a)).append((char) ('a' + b)).append(number(draw(4) == 0 ? 99 : 25));
            }
        }
        return ill(s.toString(), 8);
    }

    private String feastsText(int lines) {
        StringBuilder s = new StringBuilder();
        for (int k = 0; k < lines; k++) {
            int from = Math.min(98, model.count(3)) + draw(draw(2) == 0 ? 4 : 12);
            from = Math.min(99, from);
            int to = Math.min(99, from + draw(4) - (draw(20) == 0 ? 1 : 0));
            s.append(k == 0 ? "" : ";").append((char) ('a' + draw(Math.max(1, model.count(0)))));
            s.append(from).append('-').append(Math.max(0, to)).append('$').append(number(99));
            s.append('*').append(1 + draw(9));
        }
        return ill(s.toString(), 8);
    }

    private String ruleText() {
        StringBuilder s = new StringBuilder();
        expression(s, 0);
        String text = s.length() > 42 && draw(3) > 0 ? s.substring(0, 39) : s.toString();
        return ill(text, 5);
    }

    private void expression(StringBuilder s, int depth) {
        int things = 1 + draw(4);
        boolean compared = false;
        for (int k = 0; k < things; k++) {
            if (k > 0) {
                boolean compares = draw(4) == 0 && (!compared || draw(10) == 0);
                compared |= compares;
                s.append(compares ? "<>=".charAt(draw(3)) : "+-*/".charAt(draw(4)));
            }
            while (draw(6) == 0) {
                s.append('-');
            }
            int kind = draw(4);
            if (kind == 0 && depth < 5) {
                s.append('(');
                expression(s, depth + 1);
                s.append(')');
            } else if (kind == 1) {
                s.append(draw(draw(2) == 0 ? 10 : 1000));
            } else {
                s.append("mtfdns".charAt(draw(6)));
            }
        }
    }

    private String seasonText() {
        StringBuilder s = new StringBuilder();
        int acts = draw(20) == 0 ? 30 : 1 + draw(4);
        for (int k = 0; k < acts; k++) {
            s.append(k == 0 ? "" : ";");
            int kind = draw(5);
            if (kind == 0) {
                s.append('m');
            } else if (kind == 1) {
                s.append('z').append(number(draw(10) == 0 ? 99 : 3));
            } else {
                s.append('g').append((char) ('a' + draw(Math.max(1, model.count(0)) + (draw(8) == 0 ? 1 : 0))));
            }
        }
        return ill(s.length() > 80 ? s.substring(0, 80) : s.toString(), 8);
    }

    private String tuneText() {
        StringBuilder s = new StringBuilder();
        int notes = draw(15) == 0 ? 13 : 1 + draw(draw(3) == 0 ? 12 : 4);
        for (int k = 0; k < notes; k++) {
            s.append((char) ('a' + draw(draw(2) == 0 ? 7 : 2)));
        }
        return ill(s.toString(), 12);
    }

    // ---- calls

    private void one() {
        int kind = draw(100);
        if (kind < 22) {
            nights();
        } else if (kind < 32) {
            texts();
        } else if (kind < 42) {
            things();
        } else if (kind < 52) {
            ways();
        } else if (kind < 68) {
            rounds();
        } else if (kind < 78) {
            tunes();
        } else if (kind < 88) {
            odds();
        } else {
            kept();
        }
    }

    private void nights() {
        int a = near(Math.max(0, model.count(0) - 1));
        switch (draw(8)) {
            case 0:
            case 1:
            case 2:
            case 3:
                due("night(" + a + ")", x.night(a), model.night(a));
                break;
            case 4:
                int n = near(draw(15) == 0 ? 60 : 2);
                due("stay(" + n + ")", x.stay(n), model.stay(n));
                break;
            case 5:
                due("mend()", x.mend(), model.mend());
                break;
            case 6:
                int by = near(18) - 9;
                int feast = near(7);
                due("move(" + feast + ", " + by + ")", x.move(feast, by), model.move(feast, by));
                break;
            default:
                tell(seasonText());
                String text = model.text;
                due("season() of " + text, x.season(), model.season());
        }
    }

    private void texts() {
        switch (draw(8)) {
            case 0:
                tell(hillsText(1 + draw(3)));
                due("hills() of " + model.text, x.hills(), model.hills());
                break;
            case 1:
            case 2:
                tell(feastsText(1 + draw(2)));
                due("feasts() of " + model.text, x.feasts(), model.feasts());
                break;
            case 3:
            case 4:
            case 5:
                tell(ruleText());
                due("rule() of " + model.text, x.rule(), model.rule());
                break;
            case 6:
                due("rule()", x.rule(), model.rule());
                break;
            default:
                int n = near(80);
                due("end(" + n + ")", x.end(n), model.end(n));
                due("sign(" + n + ")", x.sign(n), model.sign(n));
        }
    }

    private void things() {
        int a = near(8);
        int what = near(6);
        switch (draw(5)) {
            case 0:
                dueOrNone("village(" + a + ", " + what + ")", () -> x.village(a, what), model.village(a, what));
                break;
            case 1:
                dueOrNone("feast(" + a + ", " + what + ")", () -> x.feast(a, what), model.feast(a, what));
                break;
            case 2:
                int kind = near(3);
                int n = near(8);
                int f = draw(3) == 0 ? random.nextInt() : draw(100);
                int step = draw(3) == 0 ? random.nextInt() : draw(60) - 30;
                due("sheet(" + kind + ", " + n + ", " + f + ", " + step + ")", x.sheet(kind, n, f, step),
                    model.sheet(kind, n, f, step));
                break;
            default:
                int which = near(3);
                int night = Math.min(99, model.count(3) + draw(8));
                int v = which == 0 ? near(45) : which == 1 ? near(draw(2) == 0 ? 30 : 3) : draw(3) == 0 ? near(99) : night;
                due("set(" + which + ", " + v + ")", x.set(which, v), model.set(which, v));
        }
    }

    private void ways() {
        int a = near(Math.max(0, model.count(0) - 1));
        int b = near(Math.max(0, model.count(0) - 1));
        switch (draw(4)) {
            case 0:
                due("reach()", x.reach(), model.reach());
                break;
            case 1:
                due("far(" + a + ", " + b + ")", x.far(a, b), model.far(a, b));
                break;
            default:
                due("comes(" + a + ")", x.comes(a), model.comes(a));
        }
    }

    private void rounds() {
        int n = near(draw(4) == 0 ? 10 : 4);
        int a = near(Math.max(0, model.count(2) - 1));
        int v = near(Math.max(0, model.count(0) - 1));
        switch (draw(9)) {
            case 0:
                due("round(" + n + ")", x.round(n), model.round(n));
                break;
            case 1:
                due("richest(" + n + ")", x.richest(n), model.richest(n));
                break;
            case 2:
                int those = near((1 << model.count(2)) - 1) & (draw(2) == 0 ? -1 : random.nextInt());
                due("all(" + those + ")", x.all(those), model.all(those));
                break;
            case 3:
                if (draw(8) == 0) {
                    due("clash()", x.clash(), model.clash());
                }
                break;
            case 4:
                due("worth(" + a + ", " + n + ")", x.worth(a, n), model.worth(a, n));
                break;
            case 5:
                due("longer(" + n + ")", x.longer(n), model.longer(n));
                break;
            case 6:
                due("learns(" + n + ")", x.learns(n), model.learns(n));
                break;
            default:
                due("second(" + v + ", " + n + ")", x.second(v, n), model.second(v, n));
        }
    }

    private void tunes() {
        int a = near(7);
        int b = near(Math.max(0, model.count(11) - 1));
        int v = near(Math.max(0, model.count(0) - 1));
        switch (draw(12)) {
            case 0:
            case 1:
            case 2:
            case 3:
                tell(tuneText());
                due("tune(" + v + ") of " + model.text, x.tune(v), model.tune(v));
                break;
            case 4:
                if (draw(3) == 0) {
                    due("hush()", x.hush(), model.hush());
                }
                break;
            case 5:
            case 6:
                due("differ(" + a + ", " + b + ")", x.differ(a, b), model.differ(a, b));
                break;
            case 7:
                due("whence()", x.whence(), model.whence());
                break;
            case 8:
                due("tree()", x.tree(), model.tree());
                break;
            default:
                tell(tuneText());
                due("got() of " + model.text, x.got(), model.got());
        }
    }

    private void odds() {
        int a = near(Math.max(0, model.count(0) - 1));
        int b = near(Math.max(0, model.count(0) - 1));
        int n = near(12);
        switch (draw(4)) {
            case 0:
                int p = near(10);
                due("breaks(" + n + ", " + p + ")", x.breaks(n, p), model.breaks(n, p));
                break;
            case 1:
                int v = near(9);
                due("bids(" + a + ", " + b + ", " + v + ")", x.bids(a, b, v), model.bids(a, b, v));
                break;
            case 2:
                int nights = near(draw(2) == 0 ? 99 : 10);
                due("kinds(" + nights + ")", x.kinds(nights), model.kinds(nights));
                break;
            default:
                int seed = random.nextInt();
                int many = near(draw(2) == 0 ? 60 : 5);
                due("years(" + seed + ", " + many + ")", x.years(seed, many), model.years(seed, many));
        }
    }

    private void kept() {
        int i = near(1);
        switch (draw(3)) {
            case 0:
                due("keep(" + i + ")", x.keep(i), model.keep(i));
                break;
            case 1:
                due("again(" + i + ")", x.again(i), model.again(i));
                break;
            default:
                due("undo()", x.undo(), model.undo());
        }
    }
}
