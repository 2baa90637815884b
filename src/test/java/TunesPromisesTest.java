import static java.lang.Integer.MAX_VALUE;
import static java.lang.Integer.MIN_VALUE;

/** Promises 28 to 41, sentence by sentence: each test bears the words that it holds the class to. */
public final class TunesPromisesTest extends Check {
    private static final String HILLS = "v3;v6;v0;rab10;rbc15;rac30";
    private static final String FEASTS = "b0-2$9*5;c1-3$20*9;a2-2$7*4;b2-5$4*8";
    private static final String TWELVE = "abcdefgabcde";

    public static void main(String[] args) throws Exception {
        Sentences.run(TunesPromisesTest.class, "p28", "p29", "p30", "p31", "p32", "p33", "p34", "p35", "p36", "p37", "p38", "p39",
            "p40", "p41");
    }

    private static OneFiddle ordinary() {
        return with(HILLS, FEASTS);
    }

    /** TUNES heard at VILLAGES 0, 1, .. 8, 0 .. */
    private static OneFiddle tunes(String... texts) {
        OneFiddle x = with("v0;v0;v0;v0;v0;v0;v0;v0;v0", "");
        for (int k = 0; k < texts.length; k++) {
            due("TUNE " + texts[k], tune(x, texts[k], k % 9), k);
        }
        return x;
    }

    // ---- 28

    @Says("THE TEXT tells a TUNE (1 to 12 letters a .. g) that was heard at a VILLAGE: its number (0 ..).")
    private static void p28ItsNumber() {
        OneFiddle x = with("v0;v0", "");
        String[] texts = {"a", "g", TWELVE, "abcdefg", "a", "gggggggggggg", "ag", TWELVE.substring(1)};
        for (int k = 0; k < texts.length; k++) {
            due("TUNE " + texts[k], tune(x, texts[k], k % 2), k);
            due("TUNES", x.count(11), k + 1);
        }
        due("the first one as it was told", got(x, "b") >= 0 ? x.row(0) : -9, 1);
        due("where it was heard", got(x, "abcdefgabcdf"), 1);
        due("where the others were heard", got(x, "ggggggggggga"), 2);
    }

    @Says("-1 - p: the sign at p can't stand there")
    private static void p28TheSignThatCantStandThere() {
        String[] texts = {"h", "`", "A", "G", "0", ";", " a", "ah", "a;", "abx", "aB", "abcdefgabcdh", "a\u0000", "a\u00e1", "abcdefgh"};
        int[] places = {0, 0, 0, 0, 0, 0, 0, 1, 1, 2, 1, 11, 1, 1, 7};
        for (int k = 0; k < texts.length; k++) {
            int want = -1 - places[k];
            Twins.refusesText("tune", want, texts[k], x -> x.tune(0));
        }
    }

    @Says("(its end for none;")
    private static void p28AnEmptyText() {
        Twins.refusesText("tune", -1, "", x -> x.tune(0));
    }

    @Says("a 13th sign: at it);")
    private static void p28TwelveSignsAndNo13th() {
        due("12", tune(ordinary(), TWELVE, 0), 0);
        for (String more : new String[] {"a", "h", ";", "abcdefg", "\u0000"}) {
            Twins.refusesText("tune", -13, TWELVE + more, x -> x.tune(0));
        }
        Twins.refusesText("tune", -12, "abcdefgabcdxaaa", x -> x.tune(0));
        Twins.refusesText("tune", -13, "a".repeat(80), x -> x.tune(0));
    }

    @Says("-100: no such VILLAGE, 8 were told (asked first).")
    private static void p28NoSuchVillageAskedFirst() {
        for (int v : new int[] {4, 9, -1, MAX_VALUE, MIN_VALUE}) {
            for (String text : new String[] {"abc", "", "x", TWELVE + "a"}) {
                Twins.refusesText("tune(" + v + ")", -100, text, x -> x.tune(v));
            }
        }
        OneFiddle none = new OneFiddle();
        due("no VILLAGES", tune(none, "a", 0), -100);
        due("THE TEXT", none.count(14), 0);
    }

    @Says("8 were told (asked first).")
    private static void p28EightWereTold() {
        OneFiddle x = tunes("a", "b", "c", "d", "e", "f", "g");
        due("the eighth", tune(x, "aa", 8), 7);
        for (String text : new String[] {"bb", "", "x", TWELVE + "a"}) {
            due("the ninth, '" + text + "'", tune(x, text, 0), -100);
            due("THE TEXT", x.count(14), 0);
        }
        due("eight", x.count(11), 8);
        due("the ninth at no VILLAGE", tune(x, "bb", 9), -100);
        due("the eighth is as it was", got(x, "aa"), 256);
        x.hush();
        due("the first anew", tune(x, "bb", 0), 0);
    }

    // ---- 29

    @Says("All TUNES are forgotten: how many there were.")
    private static void p29HowManyThereWere() {
        due("none", new OneFiddle().hush(), 0);
        OneFiddle x = tunes("a", "b", "c", "d", "e", "f", "g", "aa");
        due("eight", x.hush(), 8);
        due("none then", x.hush(), 0);
        due("TUNES", x.count(11), 0);
        due("differ", x.differ(0, 0), -1);
        due("whence", x.whence(), -2);
        due("tree", x.tree(), -2);
        due("got", got(x, "a"), -200);
        due("from 0 on", tune(x, "gg", 3), 0);
        due("the new one alone", got(x, "a"), 8);
        row("the new one alone", x, 2);
        OneFiddle y = Twins.busy();
        due("three", y.hush(), 3);
        due("what can be undone stays", y.count(12), 5);
        due("the ROW stays", y.count(13), 4);
        due("THE TEXT stays", y.count(14), 3);
    }

    // ---- 30

    private static void differs(String one, String other, int changes, int like) {
        OneFiddle x = tunes(one, other);
        due(one + " and " + other, x.differ(0, 1), changes);
        row(one + " and " + other, x, like);
        due(other + " and " + one, x.differ(1, 0), changes);
        row(other + " and " + one, x, like);
    }

    @Says("By how many changes two TUNES differ (a note put in, left out, or another one): the fewest;")
    private static void p30FewestChanges() {
        differs("a", "a", 0, 1);
        differs("a", "b", 1, 0);
        differs("a", "ab", 1, 1);
        differs("b", "ab", 1, 0);
        differs("a", TWELVE, 11, 1);
        differs("aaaaaaaaaaaa", "bbbbbbbbbbbb", 12, 0);
        differs(TWELVE, TWELVE, 0, 12);
        differs(TWELVE, "bcdefgabcdef", 2, 0);
        differs("abc", "cab", 2, 0);
        differs("abcd", "badc", 3, 0);
        differs("ab", "ba", 2, 0);
        differs("aceg", "abcdefg", 3, 1);
    }

    @Says("the ROW: in how many places they are like as they stand (note k of both).")
    private static void p30LikePlaces() {
        differs("abc", "abd", 1, 2);
        differs("abc", "ab", 1, 2);
        differs("abab", "aabb", 2, 2);
        differs("abcabc", "abcabcabc", 3, 6);
        differs("gfedcba", "abcdefg", 6, 1);
    }

    @Says("NONE: none such.")
    private static void p30NoneSuch() {
        for (int k : new int[] {3, 8, -1, MAX_VALUE, MIN_VALUE}) {
            Twins.refuses("differ(" + k + ", 0)", -1, x -> x.differ(k, 0));
            Twins.refuses("differ(0, " + k + ")", -1, x -> x.differ(0, k));
        }
        due("no TUNES", with("v0", "").differ(0, 0), -1);
        OneFiddle eight = tunes("a", "b", "c", "d", "e", "f", "g", "aa");
        due("the eighth", eight.differ(7, 7), 0);
        due("the ninth", eight.differ(8, 0), -1);
        got(eight, "abc");
        due("what was asked for is none", eight.differ(0, 8), -1);
    }

    // ---- 31

    @Says("Whence TUNES came: TUNE 0 was the first; each other one came from one with a lesser number, by the fewest changes (of equal "
        + "ones the first): how many changes in all;")
    private static void p31HowManyChanges() {
        due("one", tunes("abc").whence(), 0);
        due("two", tunes("abc", "g").whence(), 3);
        due("likes", tunes("abc", "abc", "abc").whence(), 0);
        due("as unlike as can be", tunes("aaaaaaaaaaaa", "bbbbbbbbbbbb").whence(), 12);
        due("by those ahead alone", tunes("a", "gggg", "ggg").whence(), 4 + 1);
        due("by those ahead alone, turned", tunes("a", "ggg", "gggg").whence(), 3 + 1);
        due("eight", tunes("a", "ab", "abc", "abcd", "abcde", "abcdef", "abcdefg", "abcdefga").whence(), 7);
    }

    @Says("the ROW: from TUNE 1 on whence each came.")
    private static void p31WhenceEachCame() {
        OneFiddle one = tunes("abc");
        one.whence();
        row("one", one);
        OneFiddle two = tunes("abc", "g");
        two.whence();
        row("two", two, 0);
        OneFiddle like = tunes("a", "b", "c", "b", "bb");
        like.whence();
        row("of equal ones the first", like, 0, 0, 1, 1);
        OneFiddle eight = tunes("a", "ab", "abc", "abcd", "abcde", "abcdef", "abcdefg", "abcdefga");
        eight.whence();
        row("eight", eight, 0, 1, 2, 3, 4, 5, 6);
        OneFiddle mixed = tunes("aaaa", "bbbb", "aaab", "abbb");
        mixed.whence();
        row("the nearest one", mixed, 0, 0, 1);
    }

    @Says("-2: there are no TUNES.")
    private static void p31NoTunes() {
        OneFiddle x = with("v0", "");
        x.far(0, 0);
        due("none", x.whence(), -2);
        row("the ROW stays", x, 0);
        due("no VILLAGES", new OneFiddle().whence(), -2);
    }

    // ---- 32

    private static void tree(int changes, int ends, String... texts) {
        OneFiddle x = tunes(texts);
        due("a tree of " + texts.length, x.tree(), changes);
        row("a tree of " + texts.length, x, ends);
    }

    @Says("A tree of all TUNES, any from any, by the fewest changes in all: how many;")
    private static void p32FewestChanges() {
        tree(0, 0, "abc");
        tree(3, 2, "abc", "g");
        tree(4, 2, "a", "gggg", "ggg");
        tree(3, 2, "aaaa", "abbb", "aaab", "aabb");
        tree(0, 2, "abc", "abc");
        tree(12, 2, "aaaaaaaaaaaa", "bbbbbbbbbbbb");
        tree(24, 2, "aaaaaaaaaaaa", "bbbbbbbbbbbb", "cccccccccccc");
        tree(7, 2, "a", "ab", "abc", "abcd", "abcde", "abcdef", "abcdefg", "abcdefga");
    }

    @Says("the ROW: how many TUNES are at the ends of it (with one neighbour), as it is found: joined one by one, TUNE 0 being in it "
        + "first, by the fewest changes, of equal ones the least TUNE that comes in, then the least one in it.")
    private static void p32HowManyEnds() {
        tree(0, 7, "a", "a", "a", "a", "a", "a", "a", "a");
        tree(4, 4, "aaaa", "baaa", "abaa", "aaba", "aaab");
        // b comes in by ab, a by ab, which is less than b, then c by b
        tree(3, 2, "ab", "b", "a", "c");
        // c comes in by b, ca by c, then cc by ca, which is less than c
        tree(3, 2, "b", "ca", "c", "cc");
        tree(3, 2, "a", "aa", "aaa", "ab");
        // c before b, b by c, then bcc by c, which is less than b
        tree(5, 3, "cab", "bcc", "c", "b");
        // c before b, b by c, then cb by c, which is less than b
        tree(4, 3, "bac", "c", "b", "cb");
        // bab before b, a by bab before b by bbc, b by a, the other b by it
        tree(5, 2, "bbc", "bab", "a", "b", "b");
        // ca, b by c, b by b, cc by c before ca, at last aac by c, which is less than ca and cc
        tree(5, 4, "c", "ca", "aac", "b", "b", "cc");
    }

    @Says("-2: there are no TUNES.")
    private static void p32NoTunes() {
        OneFiddle x = with("v0", "");
        x.far(0, 0);
        due("none", x.tree(), -2);
        row("the ROW stays", x, 0);
        due("no VILLAGES", new OneFiddle().tree(), -2);
    }

    // ---- 33

    @Says("THE TEXT tells a TUNE (as tune()): VILLAGES (bits) where the TUNE from which it differs the least was heard (all of as few "
        + "changes);")
    private static void p33Villages() {
        OneFiddle x = tunes("abc", "abd", "bd", "g", "abc");
        due("the same twice", got(x, "abc"), 1 + 16);
        due("one", got(x, "bd"), 4);
        due("three of as few", got(x, "abe"), 1 + 2 + 16);
        due("far from all", got(x, "gggggggggggg"), 8);
        due("12 notes", got(x, TWELVE), 1 + 2 + 16);
        due("no TUNE came", x.count(11), 5);
        OneFiddle here = with("v0;v0", "");
        tune(here, "a", 1);
        tune(here, "b", 1);
        due("two of one VILLAGE", got(here, "c"), 2);
        OneFiddle nine = tunes("a", "b", "c", "d", "e", "f", "g", "aa");
        tune(nine, "a", 8);
        due("the eighth", got(nine, "aa"), 128);
        nine.hush();
        tune(nine, "a", 8);
        due("the ninth VILLAGE", got(nine, "b"), 256);
    }

    @Says("the ROW: how many changes.")
    private static void p33HowManyChanges() {
        OneFiddle x = tunes("abc", "abd", "bd");
        got(x, "bd");
        row("none", x, 0);
        got(x, "bdd");
        row("one", x, 1);
        got(x, "gggggggggggg");
        row("twelve", x, 12);
        due("all of twelve", got(x, "efefefefefef"), 7);
        row("all of twelve", x, 12);
        got(x, "g");
        row("two", x, 2);
    }

    @Says("-1 - p: likewise;")
    private static void p33TheSignThatCantStandThere() {
        String[] texts = {"", "h", "A", "abx", "a;", TWELVE + "a", TWELVE + ";", "a".repeat(80), "abcdefgabcdxa", "a\u00e1"};
        int[] places = {0, 0, 0, 2, 1, 12, 12, 12, 11, 1};
        for (int k = 0; k < texts.length; k++) {
            Twins.refusesText("got", -1 - places[k], texts[k], x -> x.got());
        }
    }

    @Says("-200: there are no TUNES (asked last).")
    private static void p33NoTunesAskedLast() {
        for (OneFiddle x : new OneFiddle[] {new OneFiddle(), ordinary()}) {
            x.kinds(1);
            due("none", got(x, "abc"), -200);
            due("THE TEXT", x.count(14), 0);
            due("an empty text first", got(x, ""), -1);
            due("an ill text first", got(x, "abx"), -3);
            due("a 13th sign first", got(x, TWELVE + "a"), -13);
            row("the ROW stays", x, 0, 0);
        }
        OneFiddle y = tunes("a");
        y.hush();
        due("none any more", got(y, "a"), -200);
    }

    // ---- 34

    @Says("How likely a string breaks in n TUNES (1 .. 12), if in each one does by p tenths (0 .. 10): 0; the ROW: the fraction.")
    private static void p34TheFraction() {
        OneFiddle x = new OneFiddle();
        for (int n = 1; n <= 12; n++) {
            due("never", x.breaks(n, 0), 0);
            row("never in " + n, x, 0, 1);
            due("surely", x.breaks(n, 10), 0);
            row("surely in " + n, x, 1, 1);
        }
        int[][] one = {{0, 1}, {1, 10}, {1, 5}, {3, 10}, {2, 5}, {1, 2}, {3, 5}, {7, 10}, {4, 5}, {9, 10}, {1, 1}};
        for (int p = 0; p <= 10; p++) {
            x.breaks(1, p);
            row("by " + p + " tenths in one", x, one[p][0], one[p][1]);
        }
        x.breaks(2, 5);
        row("1 - 1/4", x, 3, 4);
        x.breaks(3, 2);
        row("1 - 64/125", x, 61, 125);
        x.breaks(12, 5);
        row("1 - 1/4096", x, 4095, 4096);
        x.breaks(12, 1);
        row("1 - 0.9^12", x, 717570463519L, 1000000000000L);
        x.breaks(12, 9);
        row("1 - 0.1^12", x, 999999999999L, 1000000000000L);
        x.breaks(12, 8);
        row("1 - 0.2^12", x, 244140624L, 244140625L);
    }

    @Says("NONE: others.")
    private static void p34Others() {
        for (int n : new int[] {0, 13, -1, MAX_VALUE, MIN_VALUE}) {
            Twins.refuses("breaks(" + n + ", 5)", -1, x -> x.breaks(n, 5));
        }
        for (int p : new int[] {-1, 11, MAX_VALUE, MIN_VALUE}) {
            Twins.refuses("breaks(5, " + p + ")", -1, x -> x.breaks(5, p));
        }
    }

    // ---- 35

    /** Pairs in which neither would get more, by all other BIDS, if the first has it by like BIDS or the other one. */
    private static int[] pairs(int v, boolean first) {
        int[] told = {0, -1, -1};
        for (int a = 9; a >= 0; a--) {
            for (int b = 9; b >= 0; b--) {
                boolean settled = true;
                for (int c = 0; c <= 9; c++) {
                    settled &= gets(c, b, v, first) <= gets(a, b, v, first) && gets(c, a, v, !first) <= gets(b, a, v, !first);
                }
                if (settled) {
                    told[0]++;
                    told[1] = a;
                    told[2] = b;
                }
            }
        }
        return told;
    }

    private static int gets(int mine, int its, int v, boolean byLike) {
        return mine > its || mine == its && byLike ? v - mine : 0;
    }

    @Says("Two unlike VILLAGES bid 0 .. 9 for a night that is worth v (0 .. 9) to each: he goes to the higher BID (of like ones to the "
        + "nearer by MILES from where he is, of as near ones, or none with a way, the first told), who gets v less its BID, the other 0.")
    private static void p35WhoGetsTheNight() {
        for (int v = 0; v <= 9; v++) {
            OneFiddle x = with("v0;v0;v0;v0;rab5;rac7", "");
            int[] first = pairs(v, true);
            int[] other = pairs(v, false);
            due("nearer or not is told by none", first[0] * 100 + first[1] * 10 + first[2], other[0] * 100 + other[1] * 10 + other[2]);
            int[][] asked = {{1, 2}, {2, 1}, {0, 1}, {1, 0}, {1, 3}, {3, 1}};
            for (int[] both : asked) {
                due("worth " + v, x.bids(both[0], both[1], v), first[0]);
                row("worth " + v, x, first[1], first[2]);
            }
            OneFiddle none = with("v0;v0;v0", "");
            due("none with a way, worth " + v, none.bids(1, 2, v), first[0]);
            row("none with a way, worth " + v, none, first[1], first[2]);
        }
    }

    @Says("Pairs of BIDS in which neither would get more by another one alone: how many; the ROW: the least (the first's, the second's; "
        + "nothing without).")
    private static void p35Pairs() {
        OneFiddle x = ordinary();
        due("worth 0: none bids", x.bids(0, 1, 0), 1);
        row("worth 0", x, 0, 0);
        due("worth 1: 0 0, and 1 1, and 0 1", x.bids(0, 1, 1), 3);
        row("worth 1", x, 0, 0);
        for (int v = 2; v <= 9; v++) {
            due("worth " + v + ": both bid one less, or it, or one of both", x.bids(0, 1, v), 3);
            row("worth " + v, x, v - 1, v - 1);
        }
    }

    @Says("NONE: others, like ones.")
    private static void p35Others() {
        for (int v : new int[] {10, -1, MAX_VALUE, MIN_VALUE}) {
            Twins.refuses("bids(0, 1, " + v + ")", -1, x -> x.bids(0, 1, v));
        }
        for (int v : new int[] {4, 9, -1, MAX_VALUE, MIN_VALUE}) {
            Twins.refuses("bids(" + v + ", 0, 5)", -1, x -> x.bids(v, 0, 5));
            Twins.refuses("bids(0, " + v + ", 5)", -1, x -> x.bids(0, v, 5));
            Twins.refuses("bids(" + v + ", " + v + ", 5)", -1, x -> x.bids(v, v, 5));
        }
        for (int v = 0; v < 4; v++) {
            int like = v;
            Twins.refuses("bids(" + v + ", " + v + ", 5)", -1, x -> x.bids(like, like, 5));
        }
        due("no VILLAGES", new OneFiddle().bids(0, 1, 5), -1);
    }

    // ---- 36

    @Says("How many of the next n NIGHTS (1 .. 99) are moonless;")
    private static void p36Moonless() {
        OneFiddle x = ordinary();
        due("none at first", x.kinds(99), 0);
        x.set(1, 1);
        due("each of one", x.kinds(1), 1);
        due("each of 99", x.kinds(99), 99);
        x.set(1, 30);
        due("0, 30, 60, 90", x.kinds(99), 4);
        due("0, 30, 60", x.kinds(90), 3);
        due("0, 30, 60, 90 of 91", x.kinds(91), 4);
        x.stay(1);
        due("from night 1: 30", x.kinds(30), 1);
        due("from night 1, not yet 30", x.kinds(29), 0);
        x.stay(60);
        x.stay(60);
        due("from night 121: 150, 180, 210", x.kinds(90), 3);
        OneFiddle none = new OneFiddle();
        none.set(1, 2);
        due("no VILLAGES", none.kinds(3), 2);
    }

    @Says("the ROW: how many in LENT, how many both.")
    private static void p36LentAndBoth() {
        OneFiddle x = ordinary();
        x.kinds(99);
        row("no LENT", x, 0, 0);
        x.set(1, 3);
        x.set(2, 3);
        x.set(3, 6);
        x.kinds(3);
        row("0 to 2", x, 0, 0);
        x.kinds(4);
        row("0 to 3", x, 1, 1);
        x.kinds(7);
        row("0 to 6", x, 4, 2);
        x.kinds(99);
        row("0 to 98", x, 4, 2);
        x.stay(4);
        x.kinds(1);
        row("4", x, 1, 0);
        x.kinds(99);
        row("4 to 102", x, 3, 1);
        x.set(2, 0);
        x.set(3, 99);
        x.kinds(99);
        row("4 to 102, LENT to 99", x, 96, 32);
        x.set(1, 0);
        x.kinds(99);
        row("always a moon", x, 96, 0);
    }

    @Says("NONE: another n.")
    private static void p36AnotherN() {
        for (int n : new int[] {0, 100, -1, MAX_VALUE, MIN_VALUE}) {
            Twins.refuses("kinds(" + n + ")", -1, x -> x.kinds(n));
        }
    }

    // ---- 37

    /** The DRAWS by longs: R as a number from 0 to 2^32 - 1. */
    private static int[] draws(int seed, int n, int many) {
        int[] drawn = new int[many];
        long r = seed & 0xffffffffL;
        for (int k = 0; k < many; k++) {
            r = (r * 1103515245L + 12345L) % 4294967296L;
            drawn[k] = (int) (r / 65536 % n);
        }
        return drawn;
    }

    private static final int[] SEEDS = {0, 1, 2, -1, 42, 65536, MAX_VALUE, MIN_VALUE, 1103515245, -987654321};

    @Says("A DRAW of n: R = R times 1103515245 + 12345 (as ints; R is seed at first), (R without sign, by 65536) % n.")
    private static void p37Draws() {
        for (int seed : SEEDS) {
            for (int villages : new int[] {1, 2, 3, 7, 9}) {
                OneFiddle x = with("v0;".repeat(villages - 1) + "v0", "");
                int elsewhere = 0;
                int[] drawn = draws(seed, villages, 60);
                for (int n = 1; n <= 60; n++) {
                    elsewhere += drawn[n - 1] == 0 ? 0 : 1;
                    if (n % 12 == 0 || n == 1) {
                        due("seed " + seed + " of " + villages, x.years(seed, n), 0);
                        row("seed " + seed + " of " + villages + ", " + n + " NIGHTS", x, 0, 0, elsewhere);
                    }
                }
            }
        }
        due("the first R of seed 0", draws(0, 65536, 1)[0], 0);
        due("the first R of seed 1", draws(1, 65536, 1)[0], 16838);
    }

    @Says("n NIGHTS (1 .. 60) from now: in each a DRAW of VILLAGES tells where he goes; if he can't, he stays: how many FEASTS were played;")
    private static void p37NightsFromNow() {
        for (int seed : SEEDS) {
            for (int n : new int[] {1, 2, 9, 60}) {
                OneFiddle x = ordinary();
                OneFiddle y = ordinary();
                x.set(1, 4);
                y.set(1, 4);
                x.night(0);
                y.night(0);
                String state = Check.stateOf(y);
                due("alike", Check.stateOf(x).equals(state), true);
                int played = 0;
                int paid = 0;
                int not = 0;
                for (int v : draws(seed, 3, n)) {
                    int answer = y.night(v);
                    not += answer == -2 ? 1 : 0;
                    played += answer == -2 ? y.night(y.count(4)) : answer;
                    paid += (int) y.row(0);
                }
                due("seed " + seed + ", " + n + " NIGHTS", x.years(seed, n), played);
                row("seed " + seed + ", " + n + " NIGHTS", x, paid, y.count(5), not);
                due("NIGHT stays", x.count(3), 1);
                due("nothing was played", x.count(9) + x.count(6), 0);
            }
        }
    }

    @Says("the ROW: what came into PURSE, how TIRED he is then, how often he could not go.")
    private static void p37Row() {
        OneFiddle x = with("v0", "a0-0$9*4;a59-59$8*3;a60-60$7*2");
        rule(x, "60");
        due("60 NIGHTS", x.years(5, 60), 2);
        row("60 NIGHTS", x, 9 + 8, 60, 0);
        due("59 NIGHTS", x.years(5, 59), 1);
        row("59 NIGHTS: halved to 0", x, 9, 0, 0);
        x.years(5, 1);
        row("one", x, 9, 60, 0);
        x.years(5, 2);
        row("two", x, 9, 30, 0);
        x.set(2, 0);
        x.set(3, 0);
        due("LENT", x.years(5, 1), 0);
        row("LENT", x, 0, 0, 0);
        OneFiddle tired = with("v0", "a0-0$9*1;a1-1$9*1");
        rule(tired, "50");
        tired.years(0, 2);
        row("half a BID when TIRED", tired, 9 + 4, 99, 0);
    }

    @Says("NONE: another n, no VILLAGES.")
    private static void p37AnotherN() {
        for (int n : new int[] {0, 61, -1, MAX_VALUE, MIN_VALUE}) {
            Twins.refuses("years(5, " + n + ")", -1, x -> x.years(5, n));
        }
        for (int n : new int[] {1, 60, 0}) {
            due("no VILLAGES", new OneFiddle().years(5, n), -1);
        }
    }

    // ---- 38

    private static String fiddler(OneFiddle x) {
        StringBuilder told = new StringBuilder();
        for (int what = 3; what <= 10; what++) {
            told.append(x.count(what)).append(' ');
        }
        for (int k = 0; k < x.count(2); k++) {
            told.append(x.feast(k, 1)).append('-').append(x.feast(k, 2)).append(' ').append(x.feast(k, 5));
        }
        return told.toString();
    }

    @Says("NIGHT, THE FIDDLER, what was played, from and to of FEASTS are kept under a number 0 .. 1: true.")
    private static void p38Kept() {
        OneFiddle x = ordinary();
        x.night(1);
        x.move(1, 4);
        String first = fiddler(x);
        due("0", x.keep(0), true);
        due("fiddler as he was", fiddler(x).equals(first), true);
        due("what can be undone stays", x.count(12), 2);
        x.stay(5);
        x.night(2);
        x.move(2, 9);
        String second = fiddler(x);
        due("1", x.keep(1), true);
        x.stay(3);
        due("again(0)", x.again(0), true);
        due("as it was under 0", fiddler(x).equals(first), true);
        due("again(1)", x.again(1), true);
        due("as it was under 1", fiddler(x).equals(second), true);
        due("0 anew", x.keep(0), true);
        x.stay(9);
        due("again(0) anew", x.again(0), true);
        due("the latest under 0", fiddler(x).equals(second), true);
        due("no VILLAGES", new OneFiddle().keep(1), true);
    }

    @Says("Refused: others.")
    private static void p38Others() {
        for (int i : new int[] {2, -1, MAX_VALUE, MIN_VALUE}) {
            Twins.refuses("keep(" + i + ")", 0, x -> x.keep(i) ? 1 : 0);
        }
    }

    // ---- 39

    @Says("They are as they were kept under a number.")
    private static void p39AsTheyWereKept() {
        OneFiddle x = Twins.busy();
        due("again(0)", x.again(0), true);
        due("NIGHT", x.count(3), 1);
        due("where", x.count(4), 0);
        due("played", x.count(9), 0);
        due("from of FEAST 5", x.feast(5, 1), 20);
        due("nothing can be undone", x.count(12), 0);
        due("again(1)", x.again(1), true);
        due("NIGHT under 1", x.count(3), 3);
        due("where under 1", x.count(4), 2);
        due("played under 1", x.count(9), 3);
        due("PURSE under 1", x.count(6), 29);
        due("WORN under 1", x.count(8), 14);
        x.night(1);
        due("as often as he likes", x.again(1), true);
        due("NIGHT under 1 again", x.count(3), 3);
        OneFiddle y = ordinary();
        y.keep(0);
        y.set(0, 30);
        y.set(1, 3);
        y.sheet(2, 1, 44, 0);
        tune(y, "abc", 0);
        rule(y, "7");
        y.kinds(5);
        due("again", y.again(0), true);
        due("REACH stays", y.set(0, 20), 30);
        due("MOON stays", y.set(1, 0), 3);
        due("BIDS stay", y.feast(0, 3), 44);
        due("TUNES stay", y.count(11), 1);
        row("the ROW stays", y, 0, 0);
        y.night(1);
        due("THE RULE stays", y.count(5), 7);
        OneFiddle worn = with("v0", "a0-0$9*9;a0-0$9*9;a0-0$9*9");
        worn.stay(1);
        worn.keep(1);
        worn.mend();
        worn.again(1);
        due("STRINGS and PURSE", worn.count(7) * 100 + worn.count(6), 327);
    }

    @Says("Refused: nothing kept,")
    private static void p39NothingKept() {
        OneFiddle x = ordinary();
        x.night(1);
        x.far(0, 2);
        due("0", x.again(0), false);
        due("1", x.again(1), false);
        x.keep(1);
        due("0, when 1 is kept", x.again(0), false);
        due("nothing changed", x.count(3) * 10 + x.count(12), 11);
        row("the ROW stays", x, 0, 1, 2);
        due("1", x.again(1), true);
        for (int i : new int[] {2, -1, MAX_VALUE, MIN_VALUE}) {
            Twins.refuses("again(" + i + ")", 0, y -> y.again(i) ? 1 : 0);
        }
        due("no VILLAGES", new OneFiddle().again(0), false);
    }

    @Says("something of THE HILLS, or FEASTS came since.")
    private static void p39SomethingCameSince() {
        String[] texts = {"v0", "rab9", "v0;rab9"};
        for (String text : texts) {
            OneFiddle x = Twins.busy();
            hills(x, text);
            due("hills of " + text, x.again(0), false);
            due("hills of " + text + ", 1", x.again(1), false);
            due("NIGHT stays", x.count(3), 4);
        }
        OneFiddle y = Twins.busy();
        feasts(y, "a9-9$1*1");
        due("feasts", y.again(0), false);
        due("feasts, 1", y.again(1), false);
        y.keep(1);
        due("kept since", y.again(1), true);
        due("not 0", y.again(0), false);
        OneFiddle z = Twins.busy();
        z.end(0);
        z.hills();
        z.feasts();
        hills(z, "x");
        hills(z, "v1;x");
        feasts(z, "x");
        feasts(z, "a0-0$1*1;x");
        due("nothing came", z.again(0), true);
        due("nothing came, 1", z.again(1), true);
    }

    // ---- 40

    @Says("What 0: VILLAGES, 1: ROADS, 2: FEASTS, 3: NIGHT, 4: where he is, 5: TIRED, 6: PURSE, 7: STRINGS, 8: WORN, 9: FEASTS that were "
        + "played (bits), 10: those that can't be any more (bits), 11: TUNES, 12: what can be undone, 13: numbers of the ROW, 14: signs of "
        + "THE TEXT.")
    private static void p40Counts() {
        OneFiddle x = Twins.busy();
        // TIRED: 10/3+5-6/4 = 7, then 15/3+9-0+7/9 = 14 more, then halved
        int[] want = {4, 4, 6, 4, 2, 10, 29, 4, 14, 3, 12, 3, 5, 4, 3};
        for (int what = 0; what < want.length; what++) {
            due("count(" + what + ")", x.count(what), want[what]);
        }
        x.mend();
        x.far(0, 0);
        x.end(0);
        x.hush();
        due("TUNES, what can be undone, ROW, THE TEXT", x.count(11) * 1000 + x.count(12) * 100 + x.count(13) * 10 + x.count(14), 610);
    }

    @Says("10: those that can't be any more (bits),")
    private static void p40ThoseThatCantBe() {
        OneFiddle x = with("v0;v0", "b0-0$0*1;a0-0$0*1;b1-2$0*1;b0-1$0*1");
        int[] want = {0, 1, 9, 13, 13};
        for (int night = 0; night < want.length; night++) {
            due("NIGHT " + night, x.count(10), want[night]);
            x.stay(1);
        }
    }

    @Says("NONE for another what.")
    private static void p40AnotherWhat() {
        for (int what : new int[] {15, 16, -1, MAX_VALUE, MIN_VALUE}) {
            Twins.refuses("count(" + what + ")", -1, x -> x.count(what));
        }
    }

    // ---- 41

    @Says("Number i of the ROW.")
    private static void p41NumberOfTheRow() {
        OneFiddle x = ordinary();
        x.far(2, 0);
        due("0", x.row(0), 2);
        due("1", x.row(1), 1);
        due("2", x.row(2), 0);
        x.breaks(12, 9);
        due("beyond ints", x.row(1), 1000000000000L);
        x.set(1, 3);
        x.round(10);
        due("ten", x.row(9), 0);
        x.learns(0);
        due("below 0", x.row(0), -1);
    }

    @Says("NoSuchElementException: none such.")
    private static void p41NoneSuch() {
        OneFiddle none = new OneFiddle();
        for (int i : new int[] {0, 1, -1, MAX_VALUE, MIN_VALUE}) {
            throwsNone("of an empty one", () -> none.row(i));
        }
        OneFiddle x = ordinary();
        x.far(2, 0);
        for (int i : new int[] {3, 4, 16, -1, MAX_VALUE, MIN_VALUE}) {
            throwsNone("of three", () -> x.row(i));
        }
        row("it stays", x, 2, 1, 0);
        x.comes(0);
        throwsNone("what was there before", () -> x.row(0));
        OneFiddle long12 = with("v0;v0;v0;v0;v0;v0;v0;v0;v0", "");
        hills(long12, "rab20;rbc20;rcd20;rde20;ref20;rfg20;rgh20;rhi20");
        long12.set(1, 3);
        long12.comes(8);
        due("the twelfth", long12.row(11), 8);
        throwsNone("the thirteenth", () -> long12.row(12));
    }
}
