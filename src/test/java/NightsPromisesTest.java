import static java.lang.Integer.MAX_VALUE;
import static java.lang.Integer.MIN_VALUE;

/** Promises 11 to 16, sentence by sentence: each test bears the words that it holds the class to. */
public final class NightsPromisesTest extends Check {
    private static final String HILLS = "v3;v6;v0;rab10;rbc15;rac30";
    private static final String FEASTS = "b0-2$9*5;c1-3$20*9;a2-2$7*4;b2-5$4*8";

    public static void main(String[] args) throws Exception {
        Sentences.run(NightsPromisesTest.class, "p11", "p12", "p13", "p14", "p15", "p16");
    }

    private static OneFiddle ordinary() {
        return with(HILLS, FEASTS);
    }

    /** NIGHT, THE FIDDLER, what was played, from and to of FEASTS. */
    private static String fiddler(OneFiddle x) {
        StringBuilder told = new StringBuilder();
        for (int what = 3; what <= 9; what++) {
            told.append(x.count(what)).append(' ');
        }
        for (int k = 0; k < x.count(2); k++) {
            told.append(x.feast(k, 1)).append('-').append(x.feast(k, 2)).append(' ');
        }
        return told.toString();
    }

    private static void same(String what, String got, String want) {
        due(what + ": " + got + " / " + want, got.equals(want), true);
    }

    // ---- 11

    @Says("A NIGHT with a VILLAGE to which he goes (or where he is): how many FEASTS were played;")
    private static void p11HowManyWerePlayed() {
        OneFiddle x = with("v0;v0;rab20", "a0-0$1*1;b1-1$2*1;b1-2$3*1;b2-2$4*1");
        due("where he is", x.night(0), 1);
        due("to which he goes", x.night(1), 2);
        due("where", x.count(4), 1);
        due("one more there", x.night(1), 1);
        due("none", x.night(0), 0);
        due("NIGHT", x.count(3), 4);
        due("each can be undone", x.count(12), 4);
    }

    @Says("the ROW: what came into PURSE, MILES, how much more TIRED he is (less: below 0).")
    private static void p11Row() {
        OneFiddle x = with("v0;v0;v0;rab7;rbc8", "c0-0$9*1;c0-0$8*1;a1-1$3*1");
        rule(x, "60");
        x.night(2);
        row("two FEASTS by two ROADS", x, 17, 15, 60);
        x.night(2);
        row("he rests", x, 0, 0, -30);
        x.night(1);
        row("he walks", x, 0, 8, 60);
        x.night(0);
        row("99 at most", x, 0, 7, 9);
        rule(x, "-120");
        x.night(1);
        row("0 at least", x, 0, 7, -99);
        x.night(1);
        row("0 halved", x, 0, 0, 0);
    }

    @Says("-2: it is too far, or there is no way;")
    private static void p11TooFarOrNoWay() {
        Twins.refuses("no way", -2, x -> x.night(3));
        OneFiddle x = with("v0;v0;rab20", "");
        due("REACH is enough", x.night(1), 0);
        x.set(0, 19);
        due("a MILE too far", x.night(0), -2);
        due("NIGHT stays", x.count(3), 1);
        x.set(0, 40);
        x.set(1, 1);
        due("half of 40 is enough", x.night(0), 0);
        x.set(0, 39);
        due("half of 39 is too short", x.night(1), -2);
        due("he may stay", x.night(0), 0);
        x.set(0, 1);
        due("with no MILES at all he may stay", x.night(0), 0);
        OneFiddle far = Twins.busy();
        OneFiddle same = Twins.busy();
        far.set(0, 9);
        same.set(0, 9);
        due("too far", far.night(1), -2);
        Twins.alike("too far, it", far, same);
    }

    @Says("NONE: none such.")
    private static void p11NoneSuch() {
        for (int v : new int[] {4, 8, 9, -1, MAX_VALUE, MIN_VALUE}) {
            Twins.refuses("night(" + v + ")", -1, x -> x.night(v));
        }
        due("no VILLAGES", new OneFiddle().night(0), -1);
        due("the ninth", with("v0;v0;v0;v0;v0;v0;v0;v0;v0;rai5", "").night(8), 0);
    }

    // ---- 12

    @Says("n NIGHTS (0 .. 60) in which he stays where he is: how many FEASTS were played; the ROW: what came into PURSE, NIGHT.")
    private static void p12FromNoneTo60() {
        OneFiddle x = with("v0;v0;rab1", "a0-0$5*1;a59-59$6*1;a60-60$7*1;b0-99$9*1");
        due("none", x.stay(0), 0);
        row("none", x, 0, 0);
        due("NIGHT stays", x.count(3), 0);
        due("none can't be undone", x.count(12), 0);
        due("60", x.stay(60), 2);
        row("60", x, 11, 60);
        due("one", x.stay(1), 1);
        row("one", x, 7, 61);
        due("where he was", x.count(4), 0);
        due("WORN", x.count(8), 3);
        due("two that can be undone", x.count(12), 2);
    }

    @Says("in which he stays where he is")
    private static void p12EachIsANight() {
        OneFiddle x = with("v0;v0;rab1", "b3-3$9*1");
        rule(x, "40");
        x.night(1);
        due("played in the third of them", x.stay(4), 1);
        // 40, 20, 10, then he plays: 50, 25
        due("TIRED", x.count(5), 25);
        OneFiddle y = with("v0", "a0-9$9*1");
        y.set(2, 0);
        y.set(3, 2);
        due("LENT", y.stay(3), 0);
        due("behind LENT", y.stay(1), 1);
    }

    @Says("-2: there are no VILLAGES (asked first);")
    private static void p12NoVillagesAskedFirst() {
        OneFiddle x = new OneFiddle();
        for (int n : new int[] {0, 1, 60, 61, -1, MAX_VALUE, MIN_VALUE}) {
            due("stay(" + n + ")", x.stay(n), -2);
        }
        due("NIGHT", x.count(3) + x.count(12), 0);
    }

    @Says("NONE: another n.")
    private static void p12AnotherN() {
        for (int n : new int[] {61, 99, -1, MAX_VALUE, MIN_VALUE}) {
            Twins.refuses("stay(" + n + ")", -1, x -> x.stay(n));
        }
    }

    // ---- 13

    /** He has as many coins and lacks as many STRINGS as told. */
    private static OneFiddle worn(int coins, int missing) {
        String tunes = "a0-0$0*9;".repeat(missing * 2) + "a0-0$" + coins + "*" + Math.max(1, 2 * missing);
        OneFiddle x = with("v0", tunes);
        x.stay(1);
        due("coins", x.count(6), coins);
        due("STRINGS", x.count(7), 4 - missing);
        return x;
    }

    @Says("He has new STRINGS, a coin each that is missing: STRINGS are 4, how much it cost.")
    private static void p13ACoinEach() {
        for (int missing = 0; missing <= 3; missing++) {
            for (int coins : new int[] {missing, missing + 1, 99}) {
                OneFiddle x = worn(coins, missing);
                int worn = x.count(8);
                due(missing + " are missing", x.mend(), missing);
                due("PURSE", x.count(6), coins - missing);
                due("STRINGS", x.count(7), 4);
                due("WORN stays", x.count(8), worn);
                due("NIGHT stays", x.count(3), 1);
                due("it can be undone", x.undo(), 1);
                due("PURSE as it was", x.count(6), coins);
                due("STRINGS as they were", x.count(7), 4 - missing);
            }
        }
    }

    @Says("STRINGS are 4")
    private static void p13NewStringsBreakAgain() {
        OneFiddle x = with("v0", "a0-0$9*9;a0-0$9*9;a0-0$9*2;a1-1$0*9;a1-1$0*9;a2-2$0*1;a3-3$0*1");
        x.stay(1);
        due("WORN 20", x.count(8) * 10 + x.count(7), 203);
        due("one", x.mend(), 1);
        x.stay(1);
        due("WORN 38", x.count(8) * 10 + x.count(7), 384);
        x.stay(2);
        due("WORN 40", x.count(8) * 10 + x.count(7), 403);
    }

    @Says("-2: PURSE is less than that (nothing changes).")
    private static void p13PurseIsLess() {
        for (int missing = 1; missing <= 3; missing++) {
            for (int coins = 0; coins < missing; coins++) {
                OneFiddle x = worn(coins, missing);
                OneFiddle same = worn(coins, missing);
                due(missing + " for " + coins, x.mend(), -2);
                Twins.alike(missing + " for " + coins, x, same);
            }
        }
        due("none is missing, none is paid", with("v0", "").mend(), 0);
    }

    // ---- 14

    @Says("A FEAST is moved by n nights (-9 .. 9), both ends: from then.")
    private static void p14BothEnds() {
        for (int n = -9; n <= 9; n++) {
            OneFiddle x = with("v0", "a5-6$1*1;a40-50$1*1");
            due("by " + n, x.move(1, n), 40 + n);
            due("from", x.feast(1, 1), 40 + n);
            due("to", x.feast(1, 2), 50 + n);
            due("the other one stays", x.feast(0, 1) * 10 + x.feast(0, 2), 56);
            due("it can be undone", x.undo(), 0);
            due("as it was", x.feast(1, 1) * 100 + x.feast(1, 2), 4050);
        }
        OneFiddle over = with("v0;v0", "b0-0$5*1");
        over.stay(1);
        due("one that is over", over.move(0, 1), 1);
        due("it can be again", over.feast(0, 6), 0);
    }

    @Says("-2: it was played;")
    private static void p14ItWasPlayed() {
        for (int n : new int[] {0, 1, -1, 9, -9}) {
            Twins.refuses("move(0, " + n + ")", -2, x -> x.move(0, n));
        }
        OneFiddle x = with("v0", "a0-0$1*1");
        x.stay(1);
        due("played", x.move(0, 1), -2);
        x.undo();
        due("played, undone", x.move(0, 1), 1);
    }

    @Says("-3: an end would be no night 0 .. 99;")
    private static void p14AnEndWouldBeNoNight() {
        OneFiddle x = with("v0", "a9-9$1*1;a90-90$1*1;a0-99$1*1;a3-97$1*1");
        due("to 0", x.move(0, -9), 0);
        due("below 0", x.move(0, -1), -3);
        due("to 99", x.move(1, 9), 99);
        due("above 99", x.move(1, 1), -3);
        due("both ends, back", x.move(2, -1), -3);
        due("both ends, on", x.move(2, 1), -3);
        due("both ends, by none", x.move(2, 0), 0);
        due("the first end", x.move(3, -4), -3);
        due("the last end", x.move(3, 3), -3);
        due("the first end to 0", x.move(3, -3), 0);
        due("the last end to 99", x.move(3, 5), 5);
        due("five can be undone", x.count(12), 5);
        Twins.refuses("below 0", -3, y -> y.move(4, -5));
        Twins.refuses("below 0, one that is over", -3, y -> y.move(2, -3));
        OneFiddle late = with("v0", "a95-95$1*1");
        OneFiddle same = with("v0", "a95-95$1*1");
        due("above 99", late.move(0, 5), -3);
        Twins.alike("above 99, it", late, same);
    }

    @Says("NONE: others.")
    private static void p14Others() {
        for (int feast : new int[] {6, 8, -1, MAX_VALUE, MIN_VALUE}) {
            Twins.refuses("move(" + feast + ", 1)", -1, x -> x.move(feast, 1));
        }
        for (int n : new int[] {10, -10, MAX_VALUE, MIN_VALUE}) {
            Twins.refuses("move(5, " + n + ")", -1, x -> x.move(5, n));
            Twins.refuses("one that was played, by " + n, -1, x -> x.move(0, n));
        }
        due("no FEASTS", with("v0", "").move(0, 0), -1);
    }

    // ---- 15

    private static void refusesSeason(String text, int place) {
        OneFiddle x = ordinary();
        x.far(0, 2);
        due("'" + text + "'", season(x, text), -1 - place);
        due("'" + text + "': nothing is done", x.count(3) + x.count(12) + x.count(4), 0);
        row("'" + text + "': the ROW stays", x, 0, 1, 2);
    }

    @Says("THE TEXT tells A SEASON (an empty one: no ACTS), ACTS with ; between: g and a letter a .. i (night()), z and a number "
        + "(1 or 2 digits; stay()), m (mend()):")
    private static void p15Acts() {
        OneFiddle x = ordinary();
        OneFiddle y = ordinary();
        due("six", season(x, "gb;z1;gc;m;z02;gc"), 6);
        y.night(1);
        y.stay(1);
        y.night(2);
        y.mend();
        y.stay(2);
        y.night(2);
        same("as the calls", fiddler(x), fiddler(y));
        due("z00", season(x, "z00"), 1);
        due("z0", season(x, "z0"), 1);
        due("z60", season(x, "z60"), 1);
        due("NIGHT", x.count(3), 66);
        OneFiddle nine = with("v0;v0;v0;v0;v0;v0;v0;v0;v0;rai5", "");
        due("gi, ga", season(nine, "gi;ga;gi"), 3);
        due("at i", nine.count(4), 8);
    }

    @Says("(an empty one: no ACTS)")
    private static void p15AnEmptyText() {
        OneFiddle x = ordinary();
        x.night(1);
        due("empty", x.season(), 0);
        row("empty", x, 0, 0, 0);
        due("nothing of it can be undone", x.count(12), 1);
        due("NIGHT", x.count(3), 1);
        OneFiddle none = new OneFiddle();
        due("no VILLAGES", none.season(), 0);
        row("no VILLAGES", none, 0, 0, 0);
    }

    @Says("they are done one by one, till one can't be (it answers below 0): how many were done;")
    private static void p15TillOneCantBe() {
        String[] texts = {"gc;gb", "gb;gd;gb", "gb;gi;gb", "z1;z61;z1", "z60;z99", "gb;gc;ga;m", "gb;ga;gc", "z1;gb;gb;m;z2"};
        int[] done = {0, 1, 1, 1, 1, 2, 2, 5};
        int[] nights = {0, 1, 1, 1, 60, 2, 2, 5};
        for (int k = 0; k < texts.length; k++) {
            OneFiddle x = ordinary();
            due("'" + texts[k] + "'", season(x, texts[k]), done[k]);
            due("'" + texts[k] + "': NIGHT", x.count(3), nights[k]);
            due("'" + texts[k] + "': can be undone", x.count(12), done[k] == 0 ? 0 : 1);
            due("'" + texts[k] + "': told in the ROW", x.row(0), k == 7 ? 0 : 1);
        }
        OneFiddle poor = worn(0, 1);
        due("m without a coin", season(poor, "z1;m;z1"), 1);
        due("NIGHT", poor.count(3), 2);
        OneFiddle none = new OneFiddle();
        due("no VILLAGES: m, then z", season(none, "m;m;z0"), 2);
        due("no VILLAGES: g", season(none, "ga"), 0);
        OneFiddle y = Twins.busy();
        OneFiddle same = Twins.busy();
        season(y, "gd;z1");
        y.far(0, 0);
        same.far(0, 0);
        same.end(0);
        Twins.alike("a season of which none is done, but for its ROW,", y, same);
    }

    @Says("the ROW: 1 if one could not be, else 0; how many FEASTS were played, what came into PURSE by these.")
    private static void p15Row() {
        OneFiddle x = ordinary();
        season(x, "gb;gc;z1;gb");
        row("all four", x, 0, 3, 33);
        x.undo();
        season(x, "gb;gc;ga;gb");
        row("till the third", x, 1, 2, 29);
        season(x, "gi");
        row("none", x, 1, 0, 0);
        OneFiddle rich = with("v0", "a0-0$9*9;a0-0$0*9;a0-0$0*2;a1-1$5*1");
        season(rich, "z1;m;z1");
        row("the coin for a STRING is left aside", rich, 0, 4, 14);
        due("PURSE", rich.count(6), 13);
        OneFiddle tired = with("v0;v0;rab1", "a1-1$9*1");
        rule(tired, "50");
        season(tired, "gb;ga");
        row("half a BID", tired, 0, 1, 4);
    }

    @Says("-1 - p: the sign at p can't stand there (as hills();")
    private static void p15TheSignThatCantStandThere() {
        String[] texts = {"x", ";", "a", "1", "G", "g", "gj", "g`", "gA", "g1", "g;", "z", "z;", "zx", "z123", "z12x", "z-1", "m1", "mm",
            "m ", "m;", "m;;", "gab", "ga ", "gb;x", "gb;g", "gb;z", "gb;gc;z1;m;ga;", "\u0000", "g\u00e1"};
        int[] places = {0, 0, 0, 0, 0, 1, 1, 1, 1, 1, 1, 1, 1, 1, 3, 3, 1, 1, 1,
            1, 2, 2, 2, 2, 3, 4, 4, 14, 0, 1};
        for (int k = 0; k < texts.length; k++) {
            refusesSeason(texts[k], places[k]);
        }
        Twins.refusesText("season", -3, "gbx", x -> x.season());
        due("no VILLAGES", season(new OneFiddle(), "gj"), -2);
    }

    @Says("60 signs); nothing is done then.")
    private static void p15SixtySignsAndNot61() {
        String sixty = "m;".repeat(29);
        due("59", season(ordinary(), sixty + "m"), 30);
        due("60", season(ordinary(), sixty + "z1"), 30);
        due("60 of 30 g", season(ordinary(), "gb;".repeat(19) + "z01"), 20);
        refusesSeason(sixty + "z12", 60);
        refusesSeason(sixty + "z1;", 60);
        refusesSeason(sixty + "z1x", 60);
        refusesSeason(sixty + "m;m", 60);
        refusesSeason(sixty + "m;", 60);
        refusesSeason(sixty + "ga;", 60);
        refusesSeason(sixty + "gax", 60);
        refusesSeason(sixty + "gj1", 59);
        refusesSeason(sixty + "mm1", 59);
        refusesSeason(sixty + "x11", 58);
        refusesSeason(sixty + "z", 59);
        refusesSeason("m;".repeat(39) + "mm", 60);
        refusesSeason("mm" + "m;".repeat(39), 1);
    }

    // ---- 16

    private static void act(OneFiddle x, int k) {
        switch (k % 5) {
            case 0:
                due("night", x.night(k % 2), 0);
                break;
            case 1:
                due("stay", x.stay(2), 0);
                break;
            case 2:
                due("mend", x.mend(), 0);
                break;
            case 3:
                due("move", x.move(0, k % 2 == 0 ? 3 : -2) >= 0, true);
                break;
            default:
                due("season", season(x, "ga;gb"), 2);
        }
    }

    @Says("The latest night(), stay(), mend(), move(), season() (of 12 that are kept, the latest ones;")
    private static void p16TwelveAreKept() {
        OneFiddle x = with("v0;v0;rab1", "b90-95$1*1");
        String[] were = new String[30];
        for (int k = 0; k < 30; k++) {
            were[k] = fiddler(x);
            act(x, k);
            due("kept behind " + (k + 1), x.count(12), Math.min(12, k + 1));
        }
        for (int k = 29; k >= 18; k--) {
            due("left", x.undo(), k - 18);
            same("as ahead of " + k, fiddler(x), were[k]);
        }
        due("no 13th", x.undo(), -1);
        same("as ahead of the 12th", fiddler(x), were[18]);
        act(x, 0);
        due("kept anew", x.count(12), 1);
        due("undone anew", x.undo(), 0);
        same("as ahead of it", fiddler(x), were[18]);
    }

    @Says("such as were done; stay() of 1 and more, season() of which one ACT was done, as one)")
    private static void p16SuchAsWereDone() {
        OneFiddle x = ordinary();
        x.night(2);
        x.night(9);
        x.stay(0);
        x.stay(61);
        x.move(0, 10);
        x.move(0, -1);
        season(x, "gc;gb");
        season(x, "");
        season(x, "gb;");
        due("none was done", x.count(12), 0);
        x.stay(1);
        due("stay(1)", x.count(12), 1);
        x.stay(60);
        due("stay(60) as one", x.count(12), 2);
        season(x, "gb;gi");
        due("a season of which one ACT was done", x.count(12), 3);
        season(x, "z0");
        due("z0 was done", x.count(12), 4);
        season(x, "ga;gb;ga;z60");
        due("a season as one", x.count(12), 5);
        x.move(1, 0);
        due("move by 0", x.count(12), 6);
        x.mend();
        due("mend for nothing", x.count(12), 7);
        x.night(0);
        due("a night where he is", x.count(12), 8);
        OneFiddle poor = worn(0, 1);
        poor.mend();
        due("mend that is too dear", poor.count(12), 1);
        poor.move(0, 1);
        due("move of what was played", poor.count(12), 1);
    }

    @Says("is undone (NIGHT, THE FIDDLER, what was played, from and to of FEASTS are as ahead of it): how many are left that can be.")
    private static void p16AsAheadOfIt() {
        OneFiddle x = worn(9, 2);
        String first = fiddler(x);
        x.mend();
        due("left", x.undo(), 1);
        same("mend", fiddler(x), first);
        x.stay(20);
        x.undo();
        same("stay", fiddler(x), first);
        due("left", x.undo(), 0);
        due("ahead of all", x.count(3) + x.count(5) + x.count(6) + x.count(8) + x.count(9), 0);
        due("STRINGS", x.count(7), 4);
        OneFiddle y = ordinary();
        y.set(0, 25);
        String ahead = fiddler(y);
        y.move(0, 2);
        y.move(0, -1);
        y.night(2);
        season(y, "gb;z3");
        tune(y, "abc", 0);
        y.set(0, 30);
        y.set(1, 3);
        y.sheet(2, 1, 44, 0);
        rule(y, "7");
        y.kinds(5);
        due("three left", y.undo(), 3);
        due("two left", y.undo(), 2);
        due("one left", y.undo(), 1);
        due("none left", y.undo(), 0);
        same("all of them", fiddler(y), ahead);
        due("REACH is not undone", y.set(0, 1), 30);
        due("MOON is not undone", y.set(1, 0), 3);
        due("BIDS are not undone", y.feast(0, 3), 44);
        due("TUNES are not undone", y.count(11), 1);
        row("the ROW is not undone", y, 0, 0);
        y.night(0);
        y.set(0, 99);
        y.night(1);
        due("THE RULE is not undone", y.count(5), 7);
    }

    @Says("Refused: none.")
    private static void p16NoneLeft() {
        OneFiddle x = ordinary();
        x.keep(0);
        x.far(0, 2);
        due("none", x.undo(), -1);
        due("none again", x.undo(), -1);
        row("the ROW stays", x, 0, 1, 2);
        OneFiddle same = ordinary();
        same.keep(0);
        same.far(0, 2);
        Twins.alike("none, it", x, same);
        due("a new one", new OneFiddle().undo(), -1);
        x.again(0);
        x.stay(1);
        due("one", x.undo(), 0);
        due("no more", x.undo(), -1);
    }

    @Says("(hills(), feasts() and again() forget them, if they are not refused; empty ones do not.)")
    private static void p16HillsFeastsAgainForgetThem() {
        String[] calls = {"hills", "hills of a ROAD", "feasts", "again"};
        for (int k = 0; k < calls.length; k++) {
            OneFiddle x = Twins.busy();
            due("ahead", x.count(12), 5);
            long told = k == 0 ? hills(x, "v0") : k == 1 ? hills(x, "rab9") : k == 2 ? feasts(x, "a9-9$1*1") : x.again(1) ? 1 : 0;
            due(calls[k], told, 1);
            due(calls[k] + " forget them", x.count(12), 0);
            due(calls[k] + ": none", x.undo(), -1);
        }
    }

    @Says("if they are not refused; empty ones do not.)")
    private static void p16RefusedAndEmptyOnesForgetNothing() {
        OneFiddle x = Twins.busy();
        x.end(0);
        x.hills();
        x.feasts();
        due("empty ones", x.count(12), 5);
        hills(x, "v0;x");
        hills(x, "rab0");
        feasts(x, "a0-0$0*0");
        feasts(x, "a0-0$0*1;z");
        x.again(2);
        x.again(-1);
        due("refused ones", x.count(12), 5);
        OneFiddle y = ordinary();
        y.night(1);
        y.again(0);
        y.again(1);
        due("nothing was kept", y.count(12), 1);
        rule(x, "5");
        tune(x, "abc", 0);
        x.keep(0);
        x.set(0, 5);
        x.sheet(2, 1, 1, 1);
        x.hush();
        x.years(1, 60);
        due("others forget nothing", x.count(12), 5);
        due("the latest one", x.undo(), 4);
        due("from of FEAST 5", x.feast(5, 1), 20);
    }
}
