/** What it is (t0) and the terms (t1, t2), sentence by sentence: each test bears the words that it holds the class to. */
public final class TermsTest extends Check {
    private static final String HILLS = "v3;v6;v0;rab10;rbc15;rac30";
    private static final String FEASTS = "b0-2$9*5;c1-3$20*9;a2-2$7*4;b2-5$4*8";
    private static final String NINE = "v0;v1;v2;v3;v4;v5;v6;v7;v8";
    private static final String TWELVE = "rab1;rac1;rad1;rae1;raf1;rag1;rah1;rai1;rbc1;rbd1;rbe1;rbf1";

    public static void main(String[] args) throws Exception {
        Sentences.run(TermsTest.class, "t1", "t2");
    }

    private static OneFiddle ordinary() {
        return with(HILLS, FEASTS);
    }

    private static OneFiddle two(int miles) {
        return with("v0;v0;rab" + miles, "");
    }

    @Says("An object is used for at most 512 calls after it has been made;")
    private static void t0All512CallsAreAnswered() {
        OneFiddle x = new OneFiddle();
        x.sign(0x76303b76);
        x.sign(0x303b7261);
        x.sign(0x62310000);
        x.end(10);
        due("call 5", x.hills(), 3);
        for (int call = 6; call < 512; call += 2) {
            x.night(call / 2 % 2);
            x.longer(10);
        }
        due("call 512", x.count(3), 253);
        OneFiddle y = with("v0;v0;rab1", "");
        for (int call = 0; call < 450; call++) {
            y.stay(60);
        }
        due("many NIGHTS", y.count(3), 27000);
        due("what can be undone", y.count(12), 12);
    }

    // ---- 1: villages, roads

    @Says("VILLAGES 0 .. (at most 9; written a .. i): FOOD 0 .. 9.")
    private static void t1NineVillagesAndNoTenth() {
        OneFiddle x = new OneFiddle();
        due("nine", hills(x, NINE), 9);
        due("the first", x.village(0, 0), 0);
        due("the last", x.village(8, 0), 8);
        throwsNone("the tenth", () -> x.village(9, 0));
        due("the tenth is refused", hills(x, "v5"), -1);
        due("still nine", x.count(0), 9);
        OneFiddle eight = with("v0;v1;v2;v3;v4;v5;v6;v7", "");
        due("the ninth and tenth of one text", hills(eight, "v0;v0"), -4);
        due("not the ninth", eight.count(0), 8);
        due("the ninth", hills(eight, "v0"), 1);
    }

    /** 9 VILLAGES, 24 ROADS, 8 FEASTS, 8 TUNES of 12 notes, 12 that can be undone, both kept. */
    private static OneFiddle full() {
        OneFiddle x = with(NINE, "b0-0$9*9;c1-1$9*9;d2-2$9*9;e3-3$9*9;f4-4$9*9;g5-5$9*9;h6-6$9*9;i7-7$9*9");
        hills(x, TWELVE);
        hills(x, TWELVE);
        feasts(x, "");
        for (int k = 0; k < 7; k++) {
            due("TUNE " + k, tune(x, ("" + (char) ('a' + k)).repeat(12), k), k);
        }
        due("TUNE 7", tune(x, "ab".repeat(6), 8), 7);
        for (int k = 0; k < 12; k++) {
            x.move(7, k % 2 == 0 ? 1 : -1);
        }
        x.keep(0);
        x.keep(1);
        tell(x, "v".repeat(80));
        return x;
    }

    @Says("(at most 9; written a .. i)")
    private static void t1AllThatThereIsRoomFor() {
        OneFiddle x = full();
        int[] counts = {9, 24, 8, 0, 0, 0, 0, 4, 0, 0, 0, 8, 12, 0, 80};
        for (int what = 0; what < counts.length; what++) {
            due("count(" + what + ")", x.count(what), counts[what]);
        }
        due("the last VILLAGE", x.village(8, 1), 128);
        due("the last FEAST", x.feast(7, 0), 8);
        due("reach", x.reach(), 511);
        due("far", x.far(8, 7), 2);
        row("far", x, 8, 0, 7);
        due("comes", x.comes(8), 1);
        due("round", x.round(10), 8);
        row("round", x, 1, 2, 3, 4, 5, 6, 7, 8, 0, 0);
        due("richest", x.richest(10), 72);
        row("richest", x, 1, 2, 3, 4, 5, 6, 7, 8, 0, 0);
        due("all", x.all(255), 8);
        due("clash", x.clash(), -2);
        due("worth", x.worth(7, 10), 9);
        due("longer", x.longer(10), -2);
        due("learns", x.learns(10), 72);
        row("learns", x, 1, 8);
        due("second", x.second(8, 6), 0);
        due("sheet", x.sheet(2, 8, 99, 0), 792);
    }

    @Says("(at most 9; written a .. i)")
    private static void t1CallsWithAllThatThereIsRoomFor() {
        OneFiddle x = full();
        due("differ", x.differ(7, 0), 6);
        due("whence", x.whence(), 6 * 12 + 6);
        row("whence", x, 0, 0, 0, 0, 0, 0, 0);
        due("tree", x.tree(), 2 * 6 + 5 * 12);
        row("tree", x, 6);
        due("sign", x.sign(0), -1);
        due("got", got(x, "g".repeat(12)), 64);
        due("bids", x.bids(8, 7, 9), 3);
        due("years", x.years(1, 60) >= 0, true);
        due("a VILLAGE more", hills(x, "v0"), -1);
        due("a ROAD more", hills(x, "rab1"), -1);
        due("a FEAST more", feasts(x, "a0-0$0*1"), -1);
        due("a TUNE more", tune(x, "a", 0), -100);
        due("what can be undone", x.count(12), 12);
        due("a season", season(x, "gb;gc;gd;ge;gf;gg;gh;gi;m;z60"), 10);
        // TIRED 9, 18, 27, 36, 45, 53: the last two BIDS are halved
        row("a season", x, 0, 8, 6 * 9 + 2 * 4);
        due("12 still", x.count(12), 12);
        due("undone", x.undo(), 11);
        due("none was played", x.count(9), 0);
        due("again", x.again(1), true);
        due("none can be undone", x.count(12), 0);
    }

    @Says("written a .. i)")
    private static void t1LettersAToI() {
        OneFiddle x = with(NINE, "");
        due("a", feasts(x, "a0-0$0*1"), 1);
        due("i", feasts(x, "i0-0$0*1"), 1);
        due("a is 0", x.feast(0, 0), 0);
        due("i is 8", x.feast(1, 0), 8);
        for (String none : new String[] {"j", "`", "A", "I", "0", "z"}) {
            due("FEAST at " + none, feasts(x, none + "0-0$0*1"), -1);
            due("ROAD from " + none, hills(x, "r" + none + "b5"), -2);
            due("ROAD to " + none, hills(x, "ra" + none + "5"), -3);
        }
    }

    @Says("FOOD 0 .. 9.")
    private static void t1FoodOfOneDigit() {
        OneFiddle x = new OneFiddle();
        due("0", hills(x, "v0"), 1);
        due("9", hills(x, "v9"), 1);
        due("FOOD 0", x.village(0, 0), 0);
        due("FOOD 9", x.village(1, 0), 9);
        due("below 0", hills(x, "v/"), -2);
        due("above 9", hills(x, "v:"), -2);
        due("-1", hills(x, "v-1"), -2);
        due("10", hills(x, "v10"), -3);
        due("two came", x.count(0), 2);
    }

    @Says("ROADS between two unlike VILLAGES, both ways: MILES 1 .. 99.")
    private static void t1MilesFrom1To99() {
        due("1", two(1).far(0, 1), 1);
        due("99", two(99).far(0, 1), 99);
        due("1 back", two(1).far(1, 0), 1);
        due("99 back", two(99).far(1, 0), 99);
        OneFiddle x = with("v0;v0", "");
        due("0", hills(x, "rab0"), -4);
        due("100", hills(x, "rab100"), -6);
        due("like ones", hills(x, "raa5"), -3);
        due("like ones, the last", hills(x, "rbb5"), -3);
        due("no ROAD of these", x.far(0, 1), -2);
    }

    @Says("THE HILLS are told by a text of at most 76 signs: LINES with ; between,")
    private static void t1HillsOf76SignsAndNot77() {
        String most = "rab12;" + "rab1;".repeat(13) + "rab12";
        due("its signs", most.length(), 76);
        OneFiddle x = with("v0;v0", "");
        due("77", hills(x, most + ";"), -77);
        due("nothing of it", x.count(1), 0);
        due("76", hills(x, most), 15);
        due("all of it", x.count(1), 15);
        due("no ; between", hills(x, "v1v2"), -3);
        due("two ; between", hills(x, "v1;;v2"), -4);
        due("a ; ahead", hills(x, ";v1"), -1);
        due("a ; behind", hills(x, "v1;"), -4);
    }

    @Says("what they tell comes behind what there is:")
    private static void t1HillsComeBehindWhatThereIs() {
        OneFiddle x = with("v1;v2;rab9", "");
        due("more", hills(x, "v7;rbc5"), 2);
        due("the first", x.village(0, 0), 1);
        due("the second", x.village(1, 0), 2);
        due("the one that came", x.village(2, 0), 7);
        due("by both ROADS", x.far(0, 2), 14);
    }

    @Says("v, a digit (FOOD): a VILLAGE;")
    private static void t1VillageLine() {
        due("v5", hills(new OneFiddle(), "v5"), 1);
        due("v", hills(new OneFiddle(), "v"), -2);
        due("va", hills(new OneFiddle(), "va"), -2);
        due("5", hills(new OneFiddle(), "5"), -1);
        due("V5", hills(new OneFiddle(), "V5"), -1);
        due("v55", hills(new OneFiddle(), "v55"), -3);
    }

    @Says("r, two unlike letters of VILLAGES that are there (also of this text ahead of it), MILES (1 or 2 digits, not 0): a ROAD")
    private static void t1RoadLine() {
        OneFiddle x = new OneFiddle();
        due("of this text ahead", hills(x, "v1;v1;rab5"), 3);
        due("of earlier texts", hills(x, "rba4"), 1);
        due("not of this text behind", hills(x, "rac5;v1"), -3);
        due("one of both", hills(x, "v1;rac5;rad5"), -11);
        due("the first letter of none", hills(x, "rca5"), -2);
        due("digits: 1", hills(x, "rab9"), 1);
        due("digits: 2", hills(x, "rab09"), 1);
        due("digits: 3", hills(x, "rab009"), -5);
        due("digits: 3 of 9 ..", hills(x, "rab999"), -6);
        due("0", hills(x, "rab0"), -4);
        due("00", hills(x, "rab00"), -5);
        due("ROADS", x.count(1), 4);
    }

    @Says("(of several between two the shortest counts;")
    private static void t1ShortestOfSeveralRoads() {
        OneFiddle x = with("v0;v0;rab9", "");
        hills(x, "rba5");
        due("a shorter one", x.far(0, 1), 5);
        hills(x, "rab7");
        due("a longer one", x.far(0, 1), 5);
        due("each is counted", x.count(1), 3);
        hills(x, "rab3;rab4");
        due("of one text", x.far(1, 0), 3);
    }

    @Says("at most 24).")
    private static void t1TwentyFourRoadsAndNoMore() {
        OneFiddle x = with(NINE, "");
        due("12", hills(x, TWELVE), 12);
        due("11 more", hills(x, TWELVE.substring(5)), 11);
        due("the 24th and 25th of one text", hills(x, "rab2;rab3"), -6);
        due("still 23", x.count(1), 23);
        due("the 24th", hills(x, "rgh99"), 1);
        due("the 25th", hills(x, "rab1"), -1);
        due("24", x.count(1), 24);
        due("the 24th counts", x.far(6, 7), 2);
        OneFiddle few = with("v0;v0", "");
        hills(few, "rab9;".repeat(14) + "rab9");
        hills(few, "rab9;".repeat(8) + "rab2");
        due("likes of a ROAD are ROADS", few.count(1), 24);
        due("the last of them", few.far(0, 1), 2);
        due("no more of them", hills(few, "rab1"), -1);
        due("a VILLAGE still", hills(few, "v1"), 1);
    }

    // ---- 1: feasts

    @Says("FEASTS 0 .. (at most 8):")
    private static void t1EightFeastsAndNoNinth() {
        OneFiddle x = with("v0", "");
        due("seven", feasts(x, "a0-0$0*1;".repeat(6) + "a0-0$0*1"), 7);
        due("the eighth and ninth of one text", feasts(x, "a0-0$0*1;a0-0$0*1"), -10);
        due("still seven", x.count(2), 7);
        due("the eighth", feasts(x, "a5-6$7*8"), 1);
        due("it is there", x.feast(7, 4), 8);
        due("the ninth", feasts(x, "a0-0$0*1"), -1);
        throwsNone("no ninth", () -> x.feast(8, 0));
    }

    @Says("at a VILLAGE, from a night to another one (0 .. 99),")
    private static void t1NightsOfFeasts() {
        OneFiddle x = with("v0;v0", "");
        due("0 to 99", feasts(x, "b0-99$0*1"), 1);
        due("99 to 99", feasts(x, "a99-99$0*1"), 1);
        due("0 to 0", feasts(x, "a0-0$0*1"), 1);
        due("from", x.feast(0, 1) * 100 + x.feast(1, 1), 99);
        due("to", x.feast(0, 2) * 100 + x.feast(1, 2), 9999);
        due("where", x.feast(0, 0) * 10 + x.feast(1, 0), 10);
        due("from 100", feasts(x, "a100-101$0*1"), -4);
        due("to 100", feasts(x, "a9-100$0*1"), -6);
        due("from -1", feasts(x, "a-1-0$0*1"), -2);
    }

    @Says("BID 0 .. 99, TUNES 1 .. 9, played or not.")
    private static void t1BidsAndTunesOfFeasts() {
        OneFiddle x = with("v0", "a0-0$0*1;a0-0$99*9");
        due("BID 0", x.feast(0, 3), 0);
        due("BID 99", x.feast(1, 3), 99);
        due("TUNES 1", x.feast(0, 4), 1);
        due("TUNES 9", x.feast(1, 4), 9);
        due("BID 100", feasts(x, "a0-0$100*1"), -8);
        due("TUNES 0", feasts(x, "a0-0$0*0"), -8);
        due("TUNES 10", feasts(x, "a0-0$0*10"), -9);
        due("not played", x.feast(0, 5) + x.feast(1, 5), 0);
        x.stay(1);
        due("played", x.feast(0, 5) + x.feast(1, 5), 2);
    }

    @Says("They are told by a text of at most 76 signs: LINES with ; between, each one more:")
    private static void t1FeastsOf76SignsAndNot77() {
        String most = "a0-10$10*1;a0-10$10*1;a0-0$10*1" + ";a0-0$0*1".repeat(5);
        due("its signs", most.length(), 76);
        OneFiddle x = with("v0", "");
        due("77", feasts(x, most + ";"), -77);
        due("nothing of it", x.count(2), 0);
        due("76", feasts(x, most), 8);
        OneFiddle y = with("v0", "a0-0$0*1");
        due("one more", feasts(y, "a1-1$1*2"), 1);
        due("behind the first", y.feast(1, 4) * 10 + y.feast(0, 4), 21);
        due("no ; between", feasts(y, "a0-0$0*1a0-0$0*1"), -9);
        due("two ; between", feasts(y, "a0-0$0*1;;a0-0$0*1"), -10);
        due("a ; ahead", feasts(y, ";a0-0$0*1"), -1);
        due("a ; behind", feasts(y, "a0-0$0*1;"), -10);
    }

    @Says("a letter of a VILLAGE, a number, -, a number that is no less (nights; 1 or 2 digits each), $, BID (1 or 2 digits), *, "
        + "TUNES (a digit, not 0).")
    private static void t1FeastLine() {
        OneFiddle x = with("v0", "");
        String line = "a5-5$5*5";
        for (int k = 0; k < line.length(); k++) {
            String cut = line.substring(0, k);
            due("another sign at " + k, feasts(x, cut + "x" + line.substring(k + 1)), -1 - k);
            due("nothing at " + k, k == 0 ? -1 : feasts(x, cut), -1 - k);
        }
        due("the second one less", feasts(x, "a5-4$5*5"), -4);
        due("the second one less, two digits", feasts(x, "a15-14$5*5"), -6);
        due("the second one 09 for 10", feasts(x, "a10-09$5*5"), -6);
        due("three digits first", feasts(x, "a005-5$5*5"), -4);
        due("three digits second", feasts(x, "a5-005$5*5"), -5);
        due("three digits of 10 second", feasts(x, "a5-100$5*5"), -6);
        due("three digits of BID", feasts(x, "a5-5$005*5"), -8);
        due("none of these", x.count(2), 0);
        due("two digits each", feasts(x, "a05-06$07*8"), 1);
        due("from", x.feast(0, 1), 5);
        due("to", x.feast(0, 2), 6);
        due("BID", x.feast(0, 3), 7);
        due("no less is enough", feasts(x, "a5-5$5*5"), 1);
    }

    // ---- 1: the fiddler

    @Says("THE FIDDLER: at a VILLAGE (at first 0), TIRED 0 .. 99 (at first 0), PURSE (at first 0), STRINGS 0 .. 4 (at first 4), "
        + "WORN (at first 0).")
    private static void t1FiddlerAtFirst() {
        for (OneFiddle x : new OneFiddle[] {new OneFiddle(), ordinary()}) {
            due("where", x.count(4), 0);
            due("TIRED", x.count(5), 0);
            due("PURSE", x.count(6), 0);
            due("STRINGS", x.count(7), 4);
            due("WORN", x.count(8), 0);
        }
    }

    @Says("TIRED 0 .. 99")
    private static void t1TiredFrom0To99() {
        int[] more = {99, 100, 999, 98, 0, -1, -999};
        int[] want = {99, 99, 99, 98, 0, 0, 0};
        for (int k = 0; k < more.length; k++) {
            OneFiddle x = two(1);
            rule(x, "0+" + more[k]);
            x.night(1);
            due("more by " + more[k], x.count(5), want[k]);
        }
        OneFiddle x = two(1);
        rule(x, "60");
        x.night(1);
        x.night(0);
        due("60 twice", x.count(5), 99);
        rule(x, "-99");
        x.night(1);
        due("less by 99", x.count(5), 0);
        x.undo();
        rule(x, "-100");
        x.night(1);
        due("less by 100", x.count(5), 0);
        row("less by 100", x, 0, 1, -99);
    }

    @Says("REACH 1 .. 99 (MILES he can walk in a night; at first 20);")
    private static void t1Reach() {
        due("20 at first", two(20).night(1), 0);
        due("21 at first", two(21).night(1), -2);
        int[] reach = {1, 99, 50};
        for (int r : reach) {
            OneFiddle near = two(r);
            near.set(0, r);
            due("as far as REACH " + r, near.night(1), 0);
            if (r < 99) {
                OneFiddle far = two(r + 1);
                far.set(0, r);
                due("a MILE more than REACH " + r, far.night(1), -2);
            }
        }
        OneFiddle round = with("v0;v0;v0;rab50;rbc50", "");
        round.set(0, 99);
        due("100 MILES by two ROADS", round.night(2), -2);
    }

    @Says("MOON 0 .. 30 (each so many nights there is none: in nights whose number is a multiple of it; 0: always a moon; "
        + "at first 0):")
    private static void t1MoonlessNights() {
        for (int moon : new int[] {0, 1, 2, 3, 29, 30}) {
            OneFiddle x = ordinary();
            x.set(1, moon);
            for (int night = 0; night <= 61; night++) {
                x.reach();
                boolean dark = moon > 0 && night % moon == 0;
                due("MOON " + moon + ", night " + night, x.row(0), dark ? 10 : 20);
                x.stay(1);
            }
        }
        OneFiddle first = ordinary();
        first.reach();
        due("a moon at first", first.row(0), 20);
        OneFiddle late = ordinary();
        for (int k = 0; k < 5; k++) {
            late.stay(60);
        }
        late.set(1, 30);
        late.reach();
        due("night 300", late.row(0), 10);
    }

    @Says("in a night without a moon he can walk half as far (cut).")
    private static void t1HalfAsFarWithoutMoon() {
        int[] reach = {1, 2, 3, 20, 21, 99};
        int[] half = {0, 1, 1, 10, 10, 49};
        for (int k = 0; k < reach.length; k++) {
            OneFiddle x = two(Math.max(1, half[k]));
            x.set(0, reach[k]);
            x.set(1, 1);
            x.reach();
            due("half of " + reach[k], x.row(0), half[k]);
            due("half of " + reach[k] + ", he goes", x.night(1), half[k] == 0 ? -2 : 0);
            OneFiddle far = two(half[k] + 1);
            far.set(0, reach[k]);
            far.set(1, 1);
            due("more than half of " + reach[k], far.night(1), -2);
        }
    }

    @Says("LENT from a night to another one (at first none): nothing is played in it.")
    private static void t1NothingIsPlayedInLent() {
        int[] want = {1, 0, 0, 1};
        for (int night = 0; night < 4; night++) {
            OneFiddle x = with("v0", "a0-9$5*1");
            x.set(2, 1);
            x.set(3, 2);
            for (int k = 0; k < night; k++) {
                x.set(3, 99);
                x.set(2, 0);
                x.stay(1);
            }
            x.set(2, 1);
            x.set(3, 2);
            due("LENT 1 to 2, night " + night, x.stay(1), want[night]);
            due("PURSE", x.count(6), want[night] * 5);
        }
        OneFiddle one = with("v0", "a0-0$5*1;a1-1$5*1");
        one.set(2, 0);
        one.set(3, 0);
        due("LENT of one night", one.stay(2), 1);
        due("the one behind it", one.count(9), 2);
        OneFiddle last = with("v0", "a98-99$5*1;a99-99$5*1");
        last.stay(60);
        last.stay(38);
        last.set(2, 98);
        last.set(3, 99);
        due("LENT 98 to 99", last.stay(2), 0);
        due("they can't be any more", last.count(10), 3);
        due("none at first", with("v0", "a0-0$5*1").stay(1), 1);
    }

    @Says("NIGHT: which it is (at first 0).")
    private static void t1NightAtFirst() {
        due("a new one", new OneFiddle().count(3), 0);
        due("with hills", ordinary().count(3), 0);
    }

    // ---- 1: the rule

    /** What TIRED is behind a night of 10 MILES, 5 TUNES, FOOD 6, NIGHT 0, TIRED 0, 4 STRINGS. */
    private static int tiredBy(String rule) {
        OneFiddle x = ordinary();
        due("'" + rule + "' is taken", rule(x, rule), 0);
        x.night(1);
        return x.count(5);
    }

    private static void makes(String rule, int want) {
        due("'" + rule + "'", tiredBy(rule), want);
    }

    private static void fails(String rule, int place) {
        OneFiddle x = ordinary();
        rule(x, "42");
        due("'" + rule + "' fails", rule(x, rule), -1 - place);
        x.night(1);
        due("THE RULE is as it was behind '" + rule + "'", x.count(5), 42);
    }

    @Says("THE RULE is a text of at most 40 signs")
    private static void t1RuleOf40SignsAndNot41() {
        makes("1+".repeat(19) + "12", 31);
        fails("1+".repeat(19) + "123", 40);
        fails("1+".repeat(19) + "12+", 40);
        fails("1+".repeat(20) + "1", 40);
        fails("1+".repeat(20), 40);
    }

    @Says("(at first none: m/2+t-f/3).")
    private static void t1RuleAtFirst() {
        OneFiddle x = with("v0;v8;rab11", "b0-0$0*7");
        x.night(1);
        due("11/2+7-8/3", x.count(5), 10);
        OneFiddle rest = with("v9", "a0-0$0*1");
        rest.stay(1);
        due("0/2+1-9/3 is below 0", rest.count(5), 0);
        makes("m/2+t-f/3", 10 / 2 + 5 - 6 / 3);
    }

    @Says("EXPRESSION: < > = bind least (two; 1 or 0; not one behind the other),")
    private static void t1Comparisons() {
        makes("1<2", 1);
        makes("2<2", 0);
        makes("3<2", 0);
        makes("3>2", 1);
        makes("2>2", 0);
        makes("1>2", 0);
        makes("2=2", 1);
        makes("2=3", 0);
        makes("5<4+3", 1);
        makes("4+3>5", 1);
        makes("1+1=2*1", 1);
        makes("2*3=3+3", 1);
        makes("3*(1<2)", 3);
        makes("(1<2)<3", 1);
        makes("5>(2>3)", 1);
        makes("(1<2)+(3>2)+(4=4)", 3);
        makes("((((1<2))))", 1);
        makes("((((1<2)+5=6)*3>2)<2)=1", 1);
        fails("((((1<2<3))))", 7);
        for (String first : new String[] {"<", ">", "="}) {
            for (String then : new String[] {"<", ">", "="}) {
                fails("1" + first + "2" + then + "3", 3);
                fails("(1" + first + "2" + then + "3)", 4);
                fails("1" + first + "(2)" + then + "3", 5);
                fails("1" + first + "2+3*4" + then + "5", 7);
            }
            fails(first + "1", 0);
            fails("1" + first, 2);
            fails("1" + first + first + "2", 2);
        }
    }

    @Says("then + - (from the left),")
    private static void t1SumsFromTheLeft() {
        makes("9-3-2", 4);
        makes("9-3+2", 8);
        makes("9-(3+2)", 4);
        makes("1-2+3-4+9", 7);
        makes("20-8/4", 18);
        makes("2+3*4", 14);
        makes("2*3+4", 10);
        fails("1++2", 2);
        fails("+1", 0);
        fails("1+", 2);
        fails("1-", 2);
    }

    @Says("then * / (from the left; by 0: 0; cut to 0),")
    private static void t1ProductsFromTheLeft() {
        makes("24/2*3", 36);
        makes("24/4/3", 2);
        makes("24/(4/3)", 24);
        makes("7/2*2", 6);
        makes("2*7/2", 7);
        makes("7/0", 0);
        makes("9+7/0", 9);
        makes("9+7/(3-3)*5", 9);
        makes("0/0+3", 3);
        makes("9+-7/0", 9);
        makes("7/2", 3);
        makes("50+(0-7)/2", 47);
        makes("50+7/(0-2)", 47);
        makes("50+(0-7)/(0-2)", 53);
        makes("50+(0-1)/2", 50);
        fails("*1", 0);
        fails("1*", 2);
        fails("1**2", 2);
        fails("1/*2", 2);
    }

    @Says("then - ahead of a thing (any many);")
    private static void t1MinusAheadOfAThing() {
        makes("-3+9", 6);
        makes("--3", 3);
        makes("---3+9", 6);
        makes("2--3", 5);
        makes("2---3", 0);
        makes("2*-3+9", 3);
        makes("-2*-3", 6);
        makes("9/-2+9", 5);
        makes("-m+19", 9);
        makes("-(2+3)+9", 4);
        makes("-(-3)", 3);
        makes("1>-1", 1);
        makes("-".repeat(38) + "5", 5);
        makes("-".repeat(39) + "5", 0);
        fails("-".repeat(40), 40);
        fails("-", 1);
        fails("-+1", 1);
        fails("-)", 1);
    }

    @Says("things: a NUMBER of 1 to 3 digits,")
    private static void t1NumbersOf1To3Digits() {
        makes("7", 7);
        makes("42", 42);
        makes("999", 99);
        makes("999-998", 1);
        makes("007", 7);
        makes("0", 0);
        makes("000", 0);
        fails("1000", 3);
        fails("0007", 3);
        fails("1+1000", 5);
        fails("5m", 1);
        fails("m5", 1);
        fails("1 2", 1);
        fails("mt", 1);
    }

    @Says("an EXPRESSION in ( ) (at most 4 in one another),")
    private static void t1FourParenthesesInOneAnother() {
        makes("(5)", 5);
        makes("((((5))))", 5);
        makes("(1)+(2)+(3)+(4)+(5)", 15);
        makes("((((1))))+((((2))))", 3);
        makes("(((1+(2))))", 3);
        fails("(((((5)))))", 4);
        fails("((((1+(2)))))", 6);
        fails("((((1))))+(((((2)))))", 14);
        fails("()", 1);
        fails("(", 1);
        fails("(1", 2);
        fails("((1)", 4);
        fails("1)", 1);
        fails("(1))", 3);
        fails(")", 0);
        fails("1(2)", 1);
        fails("(1)2", 3);
        fails("(1)(2)", 3);
    }

    @Says("and, of a night: m MILES that were walked,")
    private static void t1LetterM() {
        OneFiddle x = with("v0;v0;v0;rab7;rbc8", "a0-0$0*1");
        rule(x, "m+20");
        x.stay(1);
        due("none, he plays", x.count(5), 20);
        rule(x, "m");
        x.night(2);
        due("by two ROADS", x.count(5), 35);
        x.night(1);
        due("by one", x.count(5), 43);
    }

    @Says("t TUNES that are played in all (0),")
    private static void t1LetterT() {
        OneFiddle x = with("v0;v0;rab1", "b0-9$0*3;b0-9$0*4;a0-9$0*9;b9-9$0*9");
        rule(x, "t+20");
        x.night(1);
        due("of two FEASTS", x.count(5), 27);
        x.undo();
        x.set(2, 0);
        x.set(3, 0);
        x.night(1);
        due("0 without", x.count(5), 20);
    }

    @Says("f FOOD of the VILLAGE where he is,")
    private static void t1LetterF() {
        OneFiddle x = with("v3;v7;rab1", "");
        rule(x, "f");
        x.night(1);
        due("where he is then", x.count(5), 7);
        x.night(0);
        due("back", x.count(5), 10);
    }

    @Says("d TIRED, n the NIGHT, s STRINGS (both as they were when the night began).")
    private static void t1LettersDNS() {
        OneFiddle x = with("v0;v0;rab1", "b0-0$9*9;b0-0$9*9;b0-0$9*9");
        rule(x, "s+10");
        x.night(1);
        due("s ahead of the STRING that broke", x.count(5), 14);
        due("it broke", x.count(7), 3);
        x.night(0);
        due("s behind it", x.count(5), 27);
        rule(x, "d");
        x.night(1);
        due("d as the night began", x.count(5), 54);
        rule(x, "n-d");
        x.night(0);
        due("n as the night began", x.count(5), 3);
    }

    @Says("As ints: how much more TIRED he is.")
    private static void t1RuleAsInts() {
        makes("999*999*999", 99);
        makes("999*999*999*3", 0);
        makes("999*999*999*3<0", 1);
        makes("999*999*999*5>0", 1);
        makes("999*999*999*3+999*999*999", 0);
        makes("999*999*999*3/999/999/999+9", 8);
        makes("-(512*512*512*16)=512*512*512*16", 1);
        makes("512*512*512*16/-1<0", 1);
        makes("512*512*512*16-1>0", 1);
        makes("512*512*512*32", 0);
    }

    // ---- 1: a night

    @Says("A NIGHT: he goes to a VILLAGE (the shortest way by ROADS, no more MILES than he can walk in it), or stays.")
    private static void t1HeGoesTheShortestWay() {
        OneFiddle x = with("v0;v0;v0;rab12;rbc8;rac21", "");
        due("20 by two ROADS", x.night(2), 0);
        row("20 by two ROADS", x, 0, 20, 10);
        x.undo();
        x.set(0, 19);
        due("20, REACH 19", x.night(2), -2);
        due("he stays", x.night(0), 0);
        row("he stays", x, 0, 0, 0);
        x.set(0, 21);
        x.night(2);
        row("not the ROAD of 21", x, 0, 20, 10);
    }

    @Says("If it is not LENT and he has STRINGS, all FEASTS there that are not played and in whose span the NIGHT is are played "
        + "(together):")
    private static void t1FeastsThatArePlayed() {
        int[] want = {0, 0, 1, 1, 1, 0};
        for (int night = 0; night < want.length; night++) {
            OneFiddle x = with("v0;v0;rab1", "a2-4$5*1;b0-9$5*1");
            if (night > 0) {
                x.set(2, 0);
                x.set(3, 99);
                x.stay(night);
                x.set(3, 0);
                x.set(2, 99);
            }
            due("2 to 4, night " + night, x.stay(1), want[night]);
            due("2 to 4, then", x.stay(1), night == 1 ? 1 : 0);
        }
        OneFiddle x = with("v0", "a0-1$5*1;a0-0$6*2;a1-1$7*3;a0-9$8*4");
        due("together", x.stay(1), 3);
        due("these", x.count(9), 11);
        due("what was played is not again", x.stay(1), 1);
        due("all", x.count(9), 15);
        OneFiddle one = with("v0", "a0-9$9*9;a0-9$9*9;a0-9$9*9;a0-9$9*9;a0-9$9*9;a0-9$9*9;a0-9$9*9;a1-9$9*9");
        one.stay(1);
        due("with one of the STRINGS", one.count(7), 1);
        due("he plays", one.stay(1), 1);
    }

    @Says("PURSE is more by their BIDS (each halved, cut, if he was TIRED 50 and more ahead),")
    private static void t1HalvedBids() {
        int[] tired = {0, 49, 50, 51, 99};
        for (int t : tired) {
            OneFiddle x = with("v0;v0;rab1", "a1-1$9*1;a1-1$5*1;a1-1$1*1;a1-1$0*1");
            rule(x, "" + t);
            x.night(1);
            due("TIRED", x.count(5), t);
            rule(x, "99");
            due("four", x.night(0), 4);
            due("TIRED " + t + " ahead", x.count(6), t < 50 ? 15 : 6);
        }
        OneFiddle less = with("v0;v0;rab1", "a1-1$9*1");
        rule(less, "50");
        less.night(1);
        rule(less, "-50");
        less.night(0);
        due("TIRED 50 ahead, 0 behind", less.count(6), 4);
    }

    @Says("WORN is more by their TUNES; for each 20 that WORN has come to (20, 40, ..) a STRING is broken (0 at least).")
    private static void t1StringsBreakAt20And40And60() {
        // behind each night: WORN and STRINGS
        OneFiddle x = with("v0", "a0-0$0*9;a0-0$0*9;a1-1$0*1;a2-2$0*1;a3-3$0*9;a4-4$0*9;a5-5$0*1;a6-6$0*9");
        int[] worn = {18, 19, 20, 29, 38, 39, 48};
        int[] strings = {4, 4, 3, 3, 3, 3, 2};
        for (int k = 0; k < worn.length; k++) {
            x.stay(1);
            due("WORN of night " + k, x.count(8), worn[k]);
            due("STRINGS of night " + k, x.count(7), strings[k]);
        }
        OneFiddle forty = with("v0", "a0-0$0*9;a0-0$0*9;a0-0$0*9;a0-0$0*9;a0-0$0*3;a1-1$0*1;a2-2$0*9;a3-3$0*9");
        forty.stay(1);
        due("39", forty.count(8) * 10 + forty.count(7), 393);
        forty.stay(1);
        due("40", forty.count(8) * 10 + forty.count(7), 402);
        forty.stay(2);
        due("58", forty.count(8) * 10 + forty.count(7), 582);
        OneFiddle sixty = with("v0", "a0-0$0*9;a0-0$0*9;a0-0$0*9;a0-0$0*9;a0-0$0*9;a0-0$0*9;a0-0$0*5;a1-1$0*1");
        sixty.stay(1);
        due("59", sixty.count(8) * 10 + sixty.count(7), 592);
        sixty.stay(1);
        due("60", sixty.count(8) * 10 + sixty.count(7), 601);
        OneFiddle all = with("v0", "a0-0$0*9;".repeat(7) + "a0-0$0*9");
        all.stay(1);
        due("72 in a night", all.count(8) * 10 + all.count(7), 721);
    }

    @Says("Then he is more TIRED by THE RULE (put to 0 .. 99); if he neither walked nor played, TIRED is halved (cut) instead.")
    private static void t1TiredOrHalved() {
        OneFiddle x = with("v0;v0;rab1", "a1-1$0*1;b9-9$0*1");
        rule(x, "7");
        x.stay(1);
        due("0 halved", x.count(5), 0);
        x.stay(1);
        due("he played", x.count(5), 7);
        x.night(1);
        due("he walked", x.count(5), 14);
        x.night(0);
        due("21", x.count(5), 21);
        x.stay(1);
        due("halved", x.count(5), 10);
        x.night(0);
        due("halved where he is", x.count(5), 5);
        x.stay(1);
        due("cut", x.count(5), 2);
        x.stay(2);
        due("halved twice", x.count(5), 0);
        OneFiddle lent = with("v0;v0;rab1", "b0-9$0*1");
        lent.set(2, 0);
        lent.set(3, 9);
        rule(lent, "20");
        lent.night(1);
        due("he walked in LENT", lent.count(5), 20);
        lent.stay(1);
        due("nothing is played in LENT", lent.count(5), 10);
    }

    @Says("NIGHT is 1 more.")
    private static void t1NightIsOneMore() {
        OneFiddle x = ordinary();
        x.night(0);
        due("one", x.count(3), 1);
        x.night(1);
        due("two", x.count(3), 2);
        x.stay(60);
        x.stay(60);
        due("122", x.count(3), 122);
        due("a NIGHT behind 99", x.night(0), 0);
        due("123", x.count(3), 123);
    }

    // ---- 2

    @Says("ROW: numbers told last by a call that says so.")
    private static void t2RowOfTheLatestCallThatTellsOne() {
        OneFiddle x = ordinary();
        tune(x, "abc", 0);
        row("at first", x);
        x.far(0, 2);
        due("others", x.worth(0, 1) + x.second(2, 0) + x.mend() + x.move(3, 0) + x.set(0, 20) + x.undo() + x.village(0, 0)
            + x.feast(0, 3) + x.sheet(2, 4, 9, 0) + x.count(2) + (x.keep(0) && x.again(0) ? 1 : 0) + x.hush(), 9 + 0 + 0 + 2 + 20 + 1 + 3
            + 9 + 36 + 4 + 1 + 1);
        tune(x, "abc", 0);
        rule(x, "5");
        hills(x, "v1");
        feasts(x, "a9-9$1*1");
        row("it stays with calls that tell none", x, 0, 1, 2);
        x.differ(0, 0);
        row("the next one", x, 3);
    }

    @Says("ROW: numbers told last by a call that says so.")
    private static void t2NothingIsLeftOfTheRowAhead() {
        Twins.Call[] calls = {x -> x.night(2), x -> x.stay(1), x -> season(x, "z1;z1"), x -> x.far(0, 1), x -> x.reach(), x -> x.comes(1),
            x -> x.round(4), x -> x.richest(3), x -> x.all(16), x -> x.clash(), x -> x.longer(3), x -> x.learns(3), x -> x.differ(0, 1),
            x -> x.whence(), x -> x.tree(), x -> x.got(), x -> x.breaks(2, 2), x -> x.bids(0, 1, 2), x -> x.kinds(2), x -> x.years(2, 2)};
        int[] numbers = {3, 2, 3, 2, 1, 1,
            4, 3, 2, 1, 1, 2, 1,
            2, 1, 1, 2, 2, 2, 3};
        for (int k = 0; k < calls.length; k++) {
            OneFiddle x = Twins.busy();
            x.round(10);
            due("ten", x.count(13), 10);
            due("call " + k + " answers", calls[k].on(x) >= 0, true);
            due("numbers of call " + k, x.count(13), numbers[k]);
            throwsNone("behind call " + k, () -> x.row(9));
        }
    }

    @Says("Rows of numbers are compared from the first on.")
    private static void t2RowsComparedFromTheFirstOn() {
        OneFiddle x = with("v0;v0;v0;v0;rad4;rac2;rcd2;rab2;rbd2", "");
        x.far(0, 3);
        row("0 1 3 is less than 0 2 3 and 0 3", x, 0, 1, 3);
        x.far(3, 0);
        row("3 0 is less than 3 1 0", x, 3, 0);
        OneFiddle y = with("v0;v0;v0;rab1;rac1;rbc1", "b0-9$5*1;c0-9$5*1");
        y.richest(3);
        row("0 1 2 is less than 0 2 1, 1 0 2 ..", y, 0, 1, 2);
    }

    @Says("Sets (of FEASTS, VILLAGES) are bits.")
    private static void t2SetsAreBits() {
        OneFiddle x = with(NINE, "a0-0$0*1;a0-0$0*1;a0-0$0*1;a0-0$0*1;a0-0$0*1;a0-0$0*1;a0-0$0*1;i0-0$0*1");
        due("FEASTS there", x.village(0, 1), 127);
        due("the eighth", x.village(8, 1), 128);
        hills(x, "rai20");
        due("VILLAGES", x.reach(), 257);
        x.stay(1);
        due("played", x.count(9), 127);
        due("those that can't be", x.count(10), 128);
    }

    @Says("Fractions are told in lowest terms, upper and lower number (0 by 1).")
    private static void t2LowestTerms() {
        OneFiddle x = new OneFiddle();
        x.breaks(1, 5);
        row("5/10", x, 1, 2);
        x.breaks(1, 2);
        row("2/10", x, 1, 5);
        x.breaks(5, 0);
        row("0", x, 0, 1);
        x.breaks(5, 10);
        row("1", x, 1, 1);
    }

    @Says("Questions change nothing.")
    private static void t2QuestionsChangeNothing() {
        Twins.asks("village", x -> x.village(1, 2));
        Twins.asks("feast", x -> x.feast(1, 6));
        Twins.asks("far", x -> x.far(0, 2));
        Twins.asks("reach", x -> x.reach());
        Twins.asks("comes", x -> x.comes(0));
        Twins.asks("round", x -> x.round(10));
        Twins.asks("richest", x -> x.richest(10));
        Twins.asks("all", x -> x.all(16));
        Twins.asks("clash", x -> x.clash());
        Twins.asks("worth", x -> x.worth(4, 10));
        Twins.asks("longer", x -> x.longer(3));
        Twins.asks("learns", x -> x.learns(10));
        Twins.asks("second", x -> x.second(1, 6));
        Twins.asks("differ", x -> x.differ(0, 2));
        Twins.asks("whence", x -> x.whence());
        Twins.asks("tree", x -> x.tree());
        Twins.asks("breaks", x -> x.breaks(3, 3));
        Twins.asks("bids", x -> x.bids(0, 1, 5));
        Twins.asks("kinds", x -> x.kinds(9));
        Twins.asks("years", x -> x.years(7, 60));
        for (int what = 0; what <= 14; what++) {
            int asked = what;
            Twins.asks("count " + what, x -> x.count(asked));
        }
        Twins.asks("row", x -> x.row(0));
        OneFiddle x = tell(Twins.busy(), "abcd");
        OneFiddle y = Twins.busy();
        due("got", x.got(), 3);
        y.end(0);
        x.far(0, 0);
        y.far(0, 0);
        Twins.alike("got, but for THE TEXT,", x, y);
    }

    @Says("Rounds that are asked for leave TIRED and STRINGS aside (full BIDS; he can always play),")
    private static void t2RoundsLeaveTiredAside() {
        OneFiddle x = with("v0;v0;rab1", "a1-1$9*9;b2-2$7*9;a4-4$5*1");
        rule(x, "99");
        x.night(1);
        due("TIRED", x.count(5), 99);
        due("round", x.round(4), 3);
        due("full BIDS", x.richest(4), 21);
        due("all", x.all(7), 4);
        due("clash", x.clash(), -2);
        due("worth", x.worth(1, 4), 7);
        due("learns", x.learns(4), 19);
        due("halved for the second alone", x.second(0, 4), 0);
        x.night(0);
        due("but a night halves", x.count(6), 4);
        OneFiddle late = with("v0;v0;rab1", "a0-0$9*1;b1-2$9*1");
        rule(late, "99");
        late.night(1);
        late.night(0);
        due("longer by a full BID", late.longer(9), -2);
        due("what is left", late.richest(1), 9);
        OneFiddle worn = with("v0", "a0-0$0*9;".repeat(6) + "a0-0$0*9;a1-1$5*9");
        worn.stay(1);
        due("one of the STRINGS", worn.count(7), 1);
        due("he can play", worn.round(1) * 10 + worn.richest(1), 15);
    }

    @Says("but not REACH, MOON, LENT.")
    private static void t2RoundsByReachMoonLent() {
        OneFiddle x = with("v0;v0;rab20", "b0-2$9*4");
        due("as they are at first", x.round(1) + x.richest(1) + x.all(1) + x.worth(0, 1) + x.learns(1), 1 + 9 + 1 + 9 + 4);
        x.set(0, 19);
        due("REACH", x.round(3) + x.richest(3) + x.worth(0, 3) + x.learns(3), 0);
        due("REACH, all", x.all(1), -2);
        due("REACH, clash", x.clash(), 1);
        x.set(0, 20);
        x.set(1, 2);
        due("MOON", x.round(1), 0);
        due("MOON, the next night", x.round(2), 1);
        due("MOON, all", x.all(1), 2);
        x.set(2, 0);
        x.set(3, 1);
        due("LENT", x.round(2), 0);
        due("LENT, behind it", x.round(3), 1);
        due("LENT, all", x.all(1), 3);
        x.set(3, 2);
        due("LENT, clash", x.clash(), 1);
        OneFiddle second = with("v0;v0;rab20", "b0-0$9*4");
        due("a second one there", second.second(1, 1), 0);
        second.set(0, 19);
        due("REACH, a second one there", second.second(1, 1), 4);
        second.set(2, 0);
        second.set(3, 0);
        due("LENT, a second one", second.second(1, 1), 0);
    }

    @Says("Refused calls answer NONE, or false, and change nothing but THE TEXT, which a call that can read it empties, whatever it "
        + "answers.")
    private static void t2RefusedCallsChangeNothing() {
        Twins.refuses("set", -1, x -> x.set(0, 100));
        Twins.refuses("sheet", -1, x -> x.sheet(4, 0, 0, 0));
        Twins.refuses("night", -1, x -> x.night(4));
        Twins.refuses("stay", -1, x -> x.stay(61));
        Twins.refuses("move", -1, x -> x.move(5, 10));
        Twins.refuses("far", -1, x -> x.far(0, 4));
        Twins.refuses("comes", -1, x -> x.comes(4));
        Twins.refuses("round", -1, x -> x.round(11));
        Twins.refuses("richest", -1, x -> x.richest(11));
        Twins.refuses("all", -1, x -> x.all(64));
        Twins.refuses("worth", -1, x -> x.worth(6, 3));
        Twins.refuses("longer", -1, x -> x.longer(11));
        Twins.refuses("learns", -1, x -> x.learns(11));
        Twins.refuses("second", -1, x -> x.second(4, 3));
        Twins.refuses("differ", -1, x -> x.differ(0, 3));
        Twins.refuses("breaks", -1, x -> x.breaks(13, 3));
        Twins.refuses("bids", -1, x -> x.bids(1, 1, 3));
        Twins.refuses("kinds", -1, x -> x.kinds(100));
        Twins.refuses("years", -1, x -> x.years(1, 61));
        Twins.refuses("count", -1, x -> x.count(15));
        Twins.refuses("end", 0, x -> x.end(4) ? 1 : 0);
        Twins.refuses("keep", 0, x -> x.keep(2) ? 1 : 0);
        Twins.refuses("again", 0, x -> x.again(2) ? 1 : 0);
    }

    @Says("THE TEXT, which a call that can read it empties, whatever it answers.")
    private static void t2CallsThatReadEmptyTheText() {
        String[] texts = {"v1", "a9-9$9*9", "5", "m", "abc", "", "x"};
        for (String text : texts) {
            OneFiddle x = tell(ordinary(), text);
            x.hills();
            due("hills of '" + text + "'", x.count(14), 0);
            tell(x, text).feasts();
            due("feasts of '" + text + "'", x.count(14), 0);
            tell(x, text).rule();
            due("rule of '" + text + "'", x.count(14), 0);
            tell(x, text).season();
            due("season of '" + text + "'", x.count(14), 0);
            tell(x, text).got();
            due("got of '" + text + "' without TUNES", x.count(14), 0);
            tell(x, text).tune(0);
            due("tune of '" + text + "'", x.count(14), 0);
            tell(x, text).tune(99);
            due("tune of '" + text + "' at no VILLAGE", x.count(14), 0);
            tell(x, text).got();
            due("got of '" + text + "'", x.count(14), 0);
        }
        OneFiddle full = with(NINE, "a0-0$0*1;".repeat(7) + "a0-0$0*1");
        tell(full, "v1").hills();
        due("hills without room", full.count(14), 0);
        tell(full, "a0-0$0*1").feasts();
        due("feasts without room", full.count(14), 0);
        tell(full, "v1").night(0);
        due("others leave it", full.count(14), 2);
    }

    @Says("The ROW stays with NONE and with each number below 0 that tells why there is no answer (-2, -3 ..);")
    private static void t2RowStaysWithoutAnAnswer() {
        Twins.refuses("far -2", -2, x -> x.far(0, 3));
        Twins.refuses("comes -2", -2, x -> x.comes(3));
        Twins.refuses("night -2", -2, x -> x.night(3));
        Twins.refuses("all -2", -2, x -> x.all(4));
        Twins.refuses("worth -2", -2, x -> x.worth(0, 3));
        Twins.refuses("longer -2", -2, x -> x.longer(0));
        Twins.refuses("move -2", -2, x -> x.move(0, 0));
        Twins.refuses("move -3", -3, x -> x.move(4, -5));
        Twins.refuses("sheet -2", -2, x -> x.sheet(2, -1, 1, 1));
        Twins.refusesText("hills", -2, "v", x -> x.hills());
        Twins.refusesText("feasts", -2, "a", x -> x.feasts());
        Twins.refusesText("rule", -2, "1)", x -> x.rule());
        Twins.refusesText("season", -2, "g", x -> x.season());
        Twins.refusesText("tune", -100, "abc", x -> x.tune(4));
        Twins.refusesText("got", -2, "ah", x -> x.got());
        OneFiddle none = with("v0", "");
        none.far(0, 0);
        due("whence", none.whence(), -2);
        due("tree", none.tree(), -2);
        due("clash", none.clash(), -2);
        due("sheet", none.sheet(3, 0, 0, 0), -3);
        due("got", got(none, "abc"), -200);
        row("the ROW stays", none, 0);
        OneFiddle bare = new OneFiddle();
        bare.kinds(3);
        due("stay", bare.stay(1), -2);
        row("the ROW stays with it", bare, 0, 0);
    }

    @Says("a number below 0 that is meant as such (below 0, too) comes with its ROW.")
    private static void t2NumbersBelow0InARow() {
        OneFiddle x = two(1);
        rule(x, "30");
        x.night(1);
        rule(x, "-12");
        due("answered", x.night(0), 0);
        row("less TIRED", x, 0, 1, -12);
        x.learns(0);
        row("NONE in a ROW", x, -1, 0);
    }
}
