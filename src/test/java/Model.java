import java.util.ArrayDeque;
import java.util.ArrayList;
import java.util.Arrays;
import java.util.HashMap;
import java.util.List;
import java.util.Map;
import java.util.TreeMap;

/** The document once more, as plainly as it can be put and by other means than the class: the tests' measure. */
final class Model {
    /** The sign at a place can't stand there. */
    static final class Wrong extends Exception {
        private static final long serialVersionUID = 1;
        final int place;

        Wrong(int place) {
            this.place = place;
        }
    }

    static final class Feast implements Cloneable {
        int at;
        int from;
        int to;
        int bid;
        int tunes;
        boolean played;

        Feast copy() {
            try {
                return (Feast) clone();
            } catch (CloneNotSupportedException e) {
                throw new AssertionError(e);
            }
        }
    }

    /** What is undone and kept. */
    static final class Moment {
        int night;
        int at;
        int tired;
        int purse;
        int strings = 4;
        int worn;
        List<int[]> spans = new ArrayList<>();
    }

    String text = "";
    long[] row = {};
    List<Integer> food = new ArrayList<>();
    List<int[]> roads = new ArrayList<>();
    List<Feast> feasts = new ArrayList<>();
    String rule = "m/2+t-f/3";
    Moment now = new Moment();
    int reach = 20;
    int moon = 0;
    int lentFrom = 99;
    int lentTo = 0;
    ArrayDeque<Moment> past = new ArrayDeque<>();
    Moment[] kept = new Moment[2];
    List<String> songs = new ArrayList<>();
    List<Integer> heard = new ArrayList<>();
    private int earned;

    // ---- moments

    private Moment moment() {
        Moment m = new Moment();
        m.night = now.night;
        m.at = now.at;
        m.tired = now.tired;
        m.purse = now.purse;
        m.strings = now.strings;
        m.worn = now.worn;
        for (Feast f : feasts) {
            m.spans.add(new int[] {f.from, f.to, f.played ? 1 : 0});
        }
        return m;
    }

    private void become(Moment m) {
        now = new Moment();
        now.night = m.night;
        now.at = m.at;
        now.tired = m.tired;
        now.purse = m.purse;
        now.strings = m.strings;
        now.worn = m.worn;
        for (int k = 0; k < m.spans.size(); k++) {
            feasts.get(k).from = m.spans.get(k)[0];
            feasts.get(k).to = m.spans.get(k)[1];
            feasts.get(k).played = m.spans.get(k)[2] == 1;
        }
    }

    private void remember(Moment m) {
        past.addLast(m);
        if (past.size() > 12) {
            past.removeFirst();
        }
    }

    private void forget() {
        past.clear();
        Arrays.fill(kept, null);
    }

    // ---- texts

    int sign(int v) {
        if (text.length() > 76) {
            return -1;
        }
        for (int k = 3; k >= 0; k--) {
            text += (char) (v >> 8 * k & 0xff);
        }
        return text.length();
    }

    boolean end(int n) {
        if (n < 0 || n > text.length()) {
            return false;
        }
        text = text.substring(0, n);
        return true;
    }

    private interface Lines {
        /** Reads the thing that begins at a place: where it ends. */
        int read(String s, int at) throws Wrong;
    }

    /** How many LINES a text has, or -1 - p. */
    private static int lines(String whole, int most, Lines lines) {
        String s = whole.length() > most ? whole.substring(0, most) : whole;
        try {
            int at = 0;
            int many = 0;
            while (true) {
                at = lines.read(s, at);
                many++;
                if (at == s.length()) {
                    return whole.length() > most ? -1 - most : many;
                }
                need(s, at, ";");
                at++;
            }
        } catch (Wrong w) {
            return -1 - w.place;
        }
    }

    private static char need(String s, int at, String those) throws Wrong {
        if (at >= s.length() || those.indexOf(s.charAt(at)) < 0) {
            throw new Wrong(at);
        }
        return s.charAt(at);
    }

    private static int digits(String s, int at, int most) throws Wrong {
        need(s, at, "0123456789");
        int end = at;
        while (end < s.length() && end < at + most && "0123456789".indexOf(s.charAt(end)) >= 0) {
            end++;
        }
        return end;
    }

    int hills() {
        String s = text;
        text = "";
        if (s.isEmpty()) {
            return 0;
        }
        List<Integer> food2 = new ArrayList<>(food);
        List<int[]> roads2 = new ArrayList<>(roads);
        int told = lines(s, 76, (t, at) -> {
            String kinds = (food2.size() < 9 ? "v" : "") + (roads2.size() < 24 ? "r" : "");
            if (need(t, at, kinds) == 'v') {
                food2.add(need(t, at + 1, "0123456789") - '0');
                return at + 2;
            }
            String letters = "abcdefghi".substring(0, food2.size());
            char one = need(t, at + 1, letters);
            char other = need(t, at + 2, letters.replace("" + one, ""));
            int end = digits(t, at + 3, 2);
            int miles = Integer.parseInt(t.substring(at + 3, end));
            if (miles == 0) {
                throw new Wrong(end - 1);
            }
            roads2.add(new int[] {one - 'a', other - 'a', miles});
            return end;
        });
        if (told > 0) {
            food = food2;
            roads = roads2;
            forget();
        }
        return told;
    }

    int feasts() {
        String s = text;
        text = "";
        if (s.isEmpty()) {
            return 0;
        }
        List<Feast> more = new ArrayList<>();
        int told = lines(s, 76, (t, at) -> {
            boolean room = feasts.size() + more.size() < 8;
            Feast f = new Feast();
            f.at = need(t, at, room ? "abcdefghi".substring(0, food.size()) : "") - 'a';
            int dash = digits(t, at + 1, 2);
            need(t, dash, "-");
            int dollar = digits(t, dash + 1, 2);
            f.from = Integer.parseInt(t.substring(at + 1, dash));
            f.to = Integer.parseInt(t.substring(dash + 1, dollar));
            if (f.to < f.from) {
                throw new Wrong(dollar - 1);
            }
            need(t, dollar, "$");
            int star = digits(t, dollar + 1, 2);
            f.bid = Integer.parseInt(t.substring(dollar + 1, star));
            need(t, star, "*");
            f.tunes = need(t, star + 1, "123456789") - '0';
            more.add(f);
            return star + 2;
        });
        if (told > 0) {
            feasts.addAll(more);
            forget();
        }
        return told;
    }

    // ---- the rule: a sign can't stand at p, if no end can be found for the first p + 1

    int rule() {
        String s = text;
        text = "";
        if (s.isEmpty()) {
            rule = "m/2+t-f/3";
            return 0;
        }
        String head = s.length() > 40 ? s.substring(0, 40) : s;
        for (int p = 0; p < head.length(); p++) {
            if (!canGoOn(head.substring(0, p + 1))) {
                return -1 - p;
            }
        }
        if (s.length() > 40) {
            return -41;
        }
        if (!new Expression(s, new int[6]).isRight()) {
            return -1 - s.length();
        }
        rule = s;
        return 0;
    }

    private static boolean canGoOn(String head) {
        for (String thing : new String[] {"", "1"}) {
            for (String ends : new String[] {"", ")", "))", ")))", "))))"}) {
                if (new Expression(head + thing + ends, new int[6]).isRight()) {
                    return true;
                }
            }
        }
        return false;
    }

    /** An EXPRESSION, worked out as it is read. */
    private static final class Expression {
        private final String s;
        private final int[] given;
        private int at = 0;
        private int depth = 0;

        Expression(String s, int[] given) {
            this.s = s;
            this.given = given;
        }

        boolean isRight() {
            try {
                value();
                return true;
            } catch (Wrong w) {
                return false;
            }
        }

        int value() throws Wrong {
            int v = comparison();
            if (at < s.length()) {
                throw new Wrong(at);
            }
            return v;
        }

        private boolean sees(String those) {
            return at < s.length() && those.indexOf(s.charAt(at)) >= 0;
        }

        private int comparison() throws Wrong {
            int a = sum();
            if (!sees("<>=")) {
                return a;
            }
            char sign = s.charAt(at++);
            int b = sum();
            return (sign == '<' ? a < b : sign == '>' ? a > b : a == b) ? 1 : 0;
        }

        private int sum() throws Wrong {
            int a = product();
            while (sees("+-")) {
                a = s.charAt(at++) == '+' ? a + product() : a - product();
            }
            return a;
        }

        private int product() throws Wrong {
            int a = thing();
            while (sees("*/")) {
                char sign = s.charAt(at++);
                int b = thing();
                a = sign == '*' ? a * b : b == 0 ? 0 : a / b;
            }
            return a;
        }

        private int thing() throws Wrong {
            if (sees("-")) {
                at++;
                return -thing();
            }
            if (sees("mtfdns")) {
                return given["mtfdns".indexOf(s.charAt(at++))];
            }
            if (sees("0123456789")) {
                int end = digits(s, at, 3);
                int v = Integer.parseInt(s.substring(at, end));
                at = end;
                return v;
            }
            need(s, at, depth < 4 ? "(" : "");
            at++;
            depth++;
            int v = comparison();
            need(s, at, ")");
            at++;
            depth--;
            return v;
        }
    }

    // ---- ways

    private boolean isVillage(int v) {
        return v >= 0 && v < food.size();
    }

    /** MILES by the shortest way, by trying all ways; big, if there is none. */
    int miles(int from, int to) {
        int[] d = new int[food.size()];
        Arrays.fill(d, 1 << 20);
        d[from] = 0;
        for (int k = 0; k < 10; k++) {
            for (int[] r : roads) {
                d[r[0]] = Math.min(d[r[0]], d[r[1]] + r[2]);
                d[r[1]] = Math.min(d[r[1]], d[r[0]] + r[2]);
            }
        }
        return d[to];
    }

    private int told(int miles) {
        return miles >= 1 << 20 ? -1 : miles;
    }

    private boolean dark(int night) {
        return moon != 0 && night % moon == 0;
    }

    private boolean lent(int night) {
        return lentFrom <= night && night <= lentTo;
    }

    private int walk(int night) {
        return dark(night) ? reach / 2 : reach;
    }

    private boolean goes(int from, int to, int night) {
        return miles(from, to) <= walk(night);
    }

    /** All ways without a VILLAGE twice, least row first: the first that is as short. */
    private List<Integer> way(List<Integer> ahead, int to, int left) {
        int here = ahead.get(ahead.size() - 1);
        if (here == to) {
            return left == 0 ? ahead : null;
        }
        for (int v = 0; v < food.size(); v++) {
            int best = 1 << 20;
            for (int[] r : roads) {
                if (r[0] == here && r[1] == v || r[1] == here && r[0] == v) {
                    best = Math.min(best, r[2]);
                }
            }
            if (best <= left && !ahead.contains(v)) {
                List<Integer> next = new ArrayList<>(ahead);
                next.add(v);
                List<Integer> found = way(next, to, left - best);
                if (found != null) {
                    return found;
                }
            }
        }
        return null;
    }

    int far(int from, int to) {
        if (!isVillage(from) || !isVillage(to)) {
            return -1;
        }
        int miles = told(miles(from, to));
        if (miles < 0) {
            return -2;
        }
        row = longs(way(List.of(from), to, miles));
        return miles;
    }

    private static long[] longs(List<Integer> list) {
        return list.stream().mapToLong(Integer::longValue).toArray();
    }

    int reach() {
        int bits = 0;
        for (int v = 0; v < food.size(); v++) {
            bits |= goes(now.at, v, now.night) ? 1 << v : 0;
        }
        row = new long[] {walk(now.night)};
        return bits;
    }

    int comes(int village) {
        if (!isVillage(village)) {
            return -1;
        }
        // the least row to each VILLAGE by so many nights
        Map<Integer, List<Integer>> least = new TreeMap<>();
        least.put(now.at, List.of());
        for (int k = 0; k <= 12; k++) {
            if (least.containsKey(village)) {
                row = longs(least.get(village));
                return k;
            }
            Map<Integer, List<Integer>> next = new TreeMap<>();
            for (Map.Entry<Integer, List<Integer>> e : least.entrySet()) {
                for (int v = 0; v < food.size(); v++) {
                    if (goes(e.getKey(), v, now.night + k)) {
                        List<Integer> longer = new ArrayList<>(e.getValue());
                        longer.add(v);
                        if (!next.containsKey(v) || less(longer, next.get(v))) {
                            next.put(v, longer);
                        }
                    }
                }
            }
            least = next;
        }
        return -2;
    }

    private static boolean less(List<Integer> a, List<Integer> b) {
        for (int k = 0; k < Math.min(a.size(), b.size()); k++) {
            if (!a.get(k).equals(b.get(k))) {
                return a.get(k) < b.get(k);
            }
        }
        return a.size() < b.size();
    }

    // ---- what there is

    Long village(int v, int what) {
        if (!isVillage(v) || what < 0 || what > 3) {
            return null;
        }
        if (what == 0) {
            return (long) food.get(v);
        }
        if (what == 3) {
            return (long) told(miles(now.at, v));
        }
        long bits = 0;
        for (int k = 0; k < feasts.size(); k++) {
            Feast f = feasts.get(k);
            boolean open = !f.played && f.from <= now.night && now.night <= f.to;
            bits |= f.at == v && (what == 1 || open) ? 1L << k : 0;
        }
        return bits;
    }

    Long feast(int k, int what) {
        if (k < 0 || k >= feasts.size() || what < 0 || what > 6) {
            return null;
        }
        Feast f = feasts.get(k);
        int over = !f.played && f.to < now.night ? 1 : 0;
        return (long) new int[] {f.at, f.from, f.to, f.bid, f.tunes, f.played ? 1 : 0, over}[what];
    }

    int set(int what, int v) {
        if (what < 0 || what > 3 || v < (what == 0 ? 1 : 0) || v > (what == 1 ? 30 : 99)) {
            return -1;
        }
        int was = new int[] {reach, moon, lentFrom, lentTo}[what];
        reach = what == 0 ? v : reach;
        moon = what == 1 ? v : moon;
        lentFrom = what == 2 ? v : lentFrom;
        lentTo = what == 3 ? v : lentTo;
        return was;
    }

    int sheet(int kind, int n, int f, int step) {
        if (kind < 0 || kind > 3 || n > 8) {
            return -1;
        }
        if (kind < 3 && n < 0) {
            return -2;
        }
        int sum = 0;
        for (int k = 0; k < feasts.size(); k++) {
            int entry = f;
            for (int j = 0; j < k; j++) {
                entry += step;
            }
            if (kind == 0) {
                entry = entry << 24 >> 24;
            } else if (kind == 1) {
                entry = entry << 16 >> 16;
            }
            boolean there = kind < 3 && k < n;
            feasts.get(k).bid = !there || entry < 0 ? 0 : entry > 99 ? 99 : entry;
            sum += feasts.get(k).bid;
        }
        return kind == 3 ? -3 : sum;
    }

    // ---- nights

    private int spend(int village) {
        int m = miles(now.at, village);
        int before = now.tired;
        int strings = now.strings;
        int paid = 0;
        int t = 0;
        int many = 0;
        now.at = village;
        for (Feast f : feasts) {
            boolean open = !f.played && f.from <= now.night && now.night <= f.to;
            if (f.at == village && open && strings > 0 && !lent(now.night)) {
                f.played = true;
                many++;
                paid += before >= 50 ? f.bid / 2 : f.bid;
                t += f.tunes;
            }
        }
        now.purse += paid;
        for (int k = 0; k < t; k++) {
            now.worn++;
            if (now.worn % 20 == 0 && now.strings > 0) {
                now.strings--;
            }
        }
        if (m == 0 && many == 0) {
            now.tired = before / 2;
        } else {
            long more = before + (long) worked(m, t, food.get(village), before, now.night, strings);
            now.tired = more < 0 ? 0 : more > 99 ? 99 : (int) more;
        }
        now.night++;
        earned += paid;
        return many;
    }

    private int worked(int... given) {
        try {
            return new Expression(rule, given).value();
        } catch (Wrong w) {
            throw new AssertionError(w);
        }
    }

    private int goTo(int village) {
        if (!isVillage(village)) {
            return -1;
        }
        return goes(now.at, village, now.night) ? spend(village) : -2;
    }

    private int sleep(int n) {
        if (food.isEmpty()) {
            return -2;
        }
        if (n < 0 || n > 60) {
            return -1;
        }
        int many = 0;
        for (int k = 0; k < n; k++) {
            many += spend(now.at);
        }
        return many;
    }

    private int buy() {
        int price = 4 - now.strings;
        if (now.purse < price) {
            return -2;
        }
        now.purse -= price;
        now.strings = 4;
        return price;
    }

    int night(int village) {
        Moment before = moment();
        int miles = isVillage(village) ? miles(now.at, village) : 0;
        earned = 0;
        int many = goTo(village);
        if (many >= 0) {
            remember(before);
            row = new long[] {earned, miles, now.tired - before.tired};
        }
        return many;
    }

    int stay(int n) {
        Moment before = moment();
        earned = 0;
        int many = sleep(n);
        if (many >= 0) {
            if (n > 0) {
                remember(before);
            }
            row = new long[] {earned, now.night};
        }
        return many;
    }

    int mend() {
        Moment before = moment();
        int price = buy();
        if (price >= 0) {
            remember(before);
        }
        return price;
    }

    int move(int k, int n) {
        if (k < 0 || k >= feasts.size() || n < -9 || n > 9) {
            return -1;
        }
        Feast f = feasts.get(k);
        if (f.played) {
            return -2;
        }
        if (f.from + n < 0 || f.from + n > 99 || f.to + n < 0 || f.to + n > 99) {
            return -3;
        }
        remember(moment());
        f.from += n;
        f.to += n;
        return f.from;
    }

    int season() {
        String s = text;
        text = "";
        List<String> acts = new ArrayList<>();
        int told = s.isEmpty() ? 0 : lines(s, 60, (t, at) -> {
            int end = at + 1;
            if (need(t, at, "gzm") == 'g') {
                need(t, end, "abcdefghi");
                end++;
            } else if (t.charAt(at) == 'z') {
                end = digits(t, end, 2);
            }
            acts.add(t.substring(at, end));
            return end;
        });
        if (told < 0) {
            return told;
        }
        Moment before = moment();
        int done = 0;
        int many = 0;
        int stopped = 0;
        earned = 0;
        for (String act : acts) {
            char kind = act.charAt(0);
            int answer = kind == 'm' ? buy() : kind == 'g' ? goTo(act.charAt(1) - 'a') : sleep(Integer.parseInt(act.substring(1)));
            if (answer < 0) {
                stopped = 1;
                break;
            }
            done++;
            many += kind == 'm' ? 0 : answer;
        }
        if (done > 0) {
            remember(before);
        }
        row = new long[] {stopped, many, earned};
        return done;
    }

    int undo() {
        if (past.isEmpty()) {
            return -1;
        }
        become(past.removeLast());
        return past.size();
    }

    boolean keep(int i) {
        if (i < 0 || i > 1) {
            return false;
        }
        kept[i] = moment();
        return true;
    }

    boolean again(int i) {
        if (i < 0 || i > 1 || kept[i] == null) {
            return false;
        }
        become(kept[i]);
        past.clear();
        return true;
    }

    // ---- rounds: from the end on, with what was found kept

    private interface Worth {
        int of(Feast f);
    }

    private static final class Best {
        int gain;
        List<Integer> row = List.of();
    }

    private Best best(int from, int k, int n, int gone, Worth worth, Map<String, Best> found) {
        if (k == n) {
            return new Best();
        }
        String key = from + " " + k + " " + gone;
        Best best = found.get(key);
        if (best != null) {
            return best;
        }
        for (int v = 0; v < food.size(); v++) {
            if (goes(from, v, now.night + k)) {
                int then = gone;
                int gain = 0;
                for (int j = 0; j < feasts.size(); j++) {
                    if (plays(j, v, k) && (gone >> j & 1) == 0) {
                        then |= 1 << j;
                        gain += worth.of(feasts.get(j));
                    }
                }
                Best rest = best(v, k + 1, n, then, worth, found);
                if (best == null || rest.gain + gain > best.gain) {
                    best = new Best();
                    best.gain = rest.gain + gain;
                    best.row = new ArrayList<>(rest.row);
                    best.row.add(0, v);
                }
            }
        }
        found.put(key, best);
        return best;
    }

    private boolean plays(int j, int v, int k) {
        Feast f = feasts.get(j);
        int night = now.night + k;
        return f.at == v && f.from <= night && night <= f.to && !lent(night);
    }

    private int playedBits() {
        int bits = 0;
        for (int j = 0; j < feasts.size(); j++) {
            bits |= feasts.get(j).played ? 1 << j : 0;
        }
        return bits;
    }

    private Best best(int from, int n, int gone, Worth worth) {
        return best(from, 0, n, gone, worth, new HashMap<>());
    }

    private boolean canPlan(int n) {
        return !food.isEmpty() && n >= 0 && n <= 10;
    }

    int round(int n) {
        if (!canPlan(n)) {
            return -1;
        }
        Best best = best(now.at, n, playedBits(), f -> 1);
        row = longs(best.row);
        return best.gain;
    }

    private int rich(int n) {
        return best(now.at, n, playedBits(), f -> f.bid).gain;
    }

    int richest(int n) {
        if (!canPlan(n)) {
            return -1;
        }
        Best best = best(now.at, n, playedBits(), f -> f.bid);
        row = longs(best.row);
        return best.gain;
    }

    private Best all(int n, int those) {
        int missing = those & ~playedBits();
        Best best = best(now.at, n, playedBits(), f -> (missing >> feasts.indexOf(f) & 1));
        return best.gain == Integer.bitCount(missing) ? best : null;
    }

    int all(int those) {
        if (food.isEmpty() || those < 0 || those >= 1 << feasts.size()) {
            return -1;
        }
        for (int n = 0; n <= 10; n++) {
            Best best = all(n, those);
            if (best != null) {
                row = longs(best.row);
                return n;
            }
        }
        return -2;
    }

    int clash() {
        if (food.isEmpty()) {
            return -1;
        }
        for (int many = 1; many <= 8; many++) {
            for (int those = 0; those < 1 << feasts.size(); those++) {
                if (Integer.bitCount(those) == many && (those & playedBits()) == 0 && all(10, those) == null) {
                    row = new long[] {many};
                    return those;
                }
            }
        }
        return -2;
    }

    int worth(int k, int n) {
        if (k < 0 || k >= feasts.size() || n < 0 || n > 10) {
            return -1;
        }
        Feast f = feasts.get(k);
        if (f.played) {
            return -2;
        }
        int with = rich(n);
        f.played = true;
        int without = rich(n);
        f.played = false;
        return with - without;
    }

    int longer(int n) {
        if (!canPlan(n)) {
            return -1;
        }
        int before = rich(n);
        int most = 0;
        int which = -2;
        for (int k = 0; k < feasts.size(); k++) {
            Feast f = feasts.get(k);
            int to = f.to;
            f.to = Math.min(99, to + 1);
            int more = rich(n) - before;
            f.to = to;
            if (more > most) {
                most = more;
                which = k;
            }
        }
        if (which >= 0) {
            row = new long[] {most};
        }
        return which;
    }

    /** FEASTS (bits) that are played by a row. */
    private int playedBy(List<Integer> row, int nights) {
        int bits = 0;
        for (int k = 0; k < nights; k++) {
            for (int j = 0; j < feasts.size(); j++) {
                bits |= !feasts.get(j).played && plays(j, row.get(k), k) ? 1 << j : 0;
            }
        }
        return bits;
    }

    private int tunesBy(List<Integer> row, int nights) {
        int sum = 0;
        for (int j = 0; j < feasts.size(); j++) {
            sum += (playedBy(row, nights) >> j & 1) * feasts.get(j).tunes;
        }
        return sum;
    }

    int learns(int n) {
        if (!canPlan(n)) {
            return -1;
        }
        List<Integer> way = best(now.at, n, playedBits(), f -> 1).row;
        int learnt = -1;
        int busy = 0;
        for (int k = n; k >= 1; k--) {
            learnt = tunesBy(way, k) >= 9 ? k : learnt;
            busy += playedBy(way, k) != playedBy(way, k - 1) ? 1 : 0;
        }
        row = new long[] {learnt, busy};
        return tunesBy(way, n);
    }

    int second(int village, int n) {
        if (!isVillage(village) || n < 0 || n > 6) {
            return -1;
        }
        List<Integer> first = best(now.at, n, playedBits(), f -> f.bid).row;
        return best(village, n, playedBits() | playedBy(first, n), f -> f.bid / 2).gain;
    }

    // ---- tunes

    private int readTune() {
        String s = text;
        text = "";
        for (int p = 0; p < 13; p++) {
            boolean note = p < s.length() && p < 12 && "abcdefg".indexOf(s.charAt(p)) >= 0;
            if (p > 0 && p == s.length()) {
                songs.add(s);
                return 0;
            }
            if (!note) {
                return -1 - p;
            }
        }
        return -13;
    }

    int tune(int village) {
        if (!isVillage(village) || songs.size() == 8) {
            text = "";
            return -100;
        }
        int told = readTune();
        if (told < 0) {
            return told;
        }
        heard.add(village);
        return songs.size() - 1;
    }

    int hush() {
        int were = songs.size();
        songs.clear();
        heard.clear();
        return were;
    }

    private static int changes(String a, String b) {
        if (a.isEmpty() || b.isEmpty()) {
            return a.length() + b.length();
        }
        int[][] table = new int[a.length() + 1][b.length() + 1];
        for (int i = 0; i <= a.length(); i++) {
            for (int j = 0; j <= b.length(); j++) {
                if (i == 0 || j == 0) {
                    table[i][j] = i + j;
                } else {
                    int other = table[i - 1][j - 1] + (a.charAt(i - 1) == b.charAt(j - 1) ? 0 : 1);
                    table[i][j] = Math.min(other, Math.min(table[i - 1][j], table[i][j - 1]) + 1);
                }
            }
        }
        return table[a.length()][b.length()];
    }

    int differ(int one, int other) {
        if (one < 0 || other < 0 || one >= songs.size() || other >= songs.size()) {
            return -1;
        }
        String a = songs.get(one);
        String b = songs.get(other);
        int like = 0;
        for (int k = 0; k < a.length() && k < b.length(); k++) {
            like += a.charAt(k) == b.charAt(k) ? 1 : 0;
        }
        row = new long[] {like};
        return changes(a, b);
    }

    int whence() {
        if (songs.isEmpty()) {
            return -2;
        }
        int sum = 0;
        row = new long[songs.size() - 1];
        for (int k = 1; k < songs.size(); k++) {
            int fewest = 99;
            for (int j = k - 1; j >= 0; j--) {
                int by = changes(songs.get(j), songs.get(k));
                if (by <= fewest) {
                    fewest = by;
                    row[k - 1] = j;
                }
            }
            sum += fewest;
        }
        return sum;
    }

    int tree() {
        if (songs.isEmpty()) {
            return -2;
        }
        List<Integer> in = new ArrayList<>(List.of(0));
        int[] degree = new int[8];
        int sum = 0;
        while (in.size() < songs.size()) {
            int[] least = {99, 0, 0};
            for (int a = 0; a < songs.size(); a++) {
                for (int b : in) {
                    int[] edge = {changes(songs.get(a), songs.get(b)), a, b};
                    if (!in.contains(a) && Arrays.compare(edge, least) < 0) {
                        least = edge;
                    }
                }
            }
            in.add(least[1]);
            degree[least[1]]++;
            degree[least[2]]++;
            sum += least[0];
        }
        row = new long[] {Arrays.stream(degree).filter(d -> d == 1).count()};
        return sum;
    }

    int got() {
        int told = readTune();
        if (told < 0) {
            return told;
        }
        String tune = songs.remove(songs.size() - 1);
        if (songs.isEmpty()) {
            return -200;
        }
        int fewest = songs.stream().mapToInt(s -> changes(s, tune)).min().getAsInt();
        int bits = 0;
        for (int k = 0; k < songs.size(); k++) {
            bits |= changes(songs.get(k), tune) == fewest ? 1 << heard.get(k) : 0;
        }
        row = new long[] {fewest};
        return bits;
    }

    // ---- odds, bids

    int breaks(int n, int p) {
        if (n < 1 || n > 12 || p < 0 || p > 10) {
            return -1;
        }
        java.math.BigInteger all = java.math.BigInteger.TEN.pow(n);
        java.math.BigInteger broken = all.subtract(java.math.BigInteger.valueOf(10 - p).pow(n));
        java.math.BigInteger common = all.gcd(broken);
        row = new long[] {broken.divide(common).longValueExact(), all.divide(common).longValueExact()};
        return 0;
    }

    int bids(int one, int other, int v) {
        if (!isVillage(one) || !isVillage(other) || one == other || v < 0 || v > 9) {
            return -1;
        }
        boolean first = miles(now.at, one) <= miles(now.at, other);
        int[][] mine = new int[10][10];
        int[][] its = new int[10][10];
        for (int a = 0; a < 10; a++) {
            for (int b = 0; b < 10; b++) {
                boolean won = a == b ? first : a > b;
                mine[a][b] = won ? v - a : 0;
                its[a][b] = won ? 0 : v - b;
            }
        }
        int pairs = 0;
        row = new long[0];
        for (int a = 9; a >= 0; a--) {
            for (int b = 9; b >= 0; b--) {
                boolean settled = true;
                for (int c = 0; c < 10; c++) {
                    settled &= mine[c][b] <= mine[a][b] && its[a][c] <= its[a][b];
                }
                if (settled) {
                    pairs++;
                    row = new long[] {a, b};
                }
            }
        }
        return pairs;
    }

    int kinds(int n) {
        if (n < 1 || n > 99) {
            return -1;
        }
        int[] many = new int[4];
        for (int k = now.night; k < now.night + n; k++) {
            many[(dark(k) ? 1 : 0) + (lent(k) ? 2 : 0)]++;
        }
        row = new long[] {many[2] + many[3], many[3]};
        return many[1] + many[3];
    }

    int years(int seed, int n) {
        if (n < 1 || n > 60 || food.isEmpty()) {
            return -1;
        }
        Moment before = moment();
        int r = seed;
        int many = 0;
        int failed = 0;
        earned = 0;
        for (int k = 0; k < n; k++) {
            r = r * 1103515245 + 12345;
            int drawn = (int) ((r & 0xffffffffL) / 65536 % food.size());
            if (goes(now.at, drawn, now.night)) {
                many += spend(drawn);
            } else {
                many += spend(now.at);
                failed++;
            }
        }
        row = new long[] {earned, now.tired, failed};
        become(before);
        return many;
    }

    int count(int what) {
        int over = 0;
        for (int j = 0; j < feasts.size(); j++) {
            over |= feasts.get(j).to < now.night ? 1 << j : 0;
        }
        over &= ~playedBits();
        int[] all = {food.size(), roads.size(), feasts.size(), now.night, now.at, now.tired, now.purse, now.strings,
            now.worn, playedBits(), over, songs.size(), past.size(), row.length, text.length()};
        return what < 0 || what > 14 ? -1 : all[what];
    }
}
