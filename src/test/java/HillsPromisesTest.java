import static java.lang.Integer.MAX_VALUE;
import static java.lang.Integer.MIN_VALUE;

/** Promises 1 to 10, sentence by sentence: each test bears the words that it holds the class to. */
public final class HillsPromisesTest extends Check {
    private static final String HILLS = "v3;v6;v0;rab10;rbc15;rac30";
    private static final String FEASTS = "b0-2$9*5;c1-3$20*9;a2-2$7*4;b2-5$4*8";
    private static final String NINE = "v0;v1;v2;v3;v4;v5;v6;v7;v8";
    private static final String TWELVE = "rab1;rac1;rad1;rae1;raf1;rag1;rah1;rai1;rbc1;rbd1;rbe1;rbf1";
    private static final String EIGHT = "a0-0$0*1;a0-0$0*1;a0-0$0*1;a0-0$0*1;a0-0$0*1;a0-0$0*1;a0-0$0*1;a0-0$0*1";

    public static void main(String[] args) throws Exception {
        Sentences.run(HillsPromisesTest.class, "p01", "p02", "p03", "p04", "p05", "p06", "p07", "p08", "p09", "p10");
    }

    private static OneFiddle ordinary() {
        return with(HILLS, FEASTS);
    }

    // ---- 1

    @Says("No VILLAGES, no FEASTS.")
    private static void p01NothingToldYet() {
        OneFiddle x = new OneFiddle();
        int[] counts = {0, 0, 0, 0, 0, 0, 0, 4, 0, 0, 0, 0, 0, 0, 0};
        for (int what = 0; what < counts.length; what++) {
            due("count(" + what + ")", x.count(what), counts[what]);
        }
        throwsNone("village", () -> x.village(0, 0));
        throwsNone("feast", () -> x.feast(0, 0));
        throwsNone("row", () -> x.row(0));
    }

    @Says("No VILLAGES, no FEASTS.")
    private static void p01CallsOfANewObject() {
        OneFiddle x = new OneFiddle();
        long[] none = {x.sheet(4, 0, 0, 0), x.night(0), x.move(0, 0), x.undo(), x.far(0, 0), x.comes(0), x.round(0), x.richest(0), x.all(0),
            x.clash(), x.worth(0, 0), x.longer(0), x.learns(0), x.second(0, 0), x.differ(0, 0), x.bids(0, 1, 0), x.years(0, 1)};
        for (int k = 0; k < none.length; k++) {
            due("NONE of call " + k, none[k], -1);
        }
        due("stay", x.stay(0), -2);
        due("whence", x.whence(), -2);
        due("tree", x.tree(), -2);
        due("again", x.again(0), false);
        due("the texts", x.hills() + x.feasts() + x.rule() + x.season(), 0);
        due("tune", x.tune(0), -100);
        due("got", x.got(), -1);
        due("hush", x.hush(), 0);
        due("sheet", x.sheet(2, 8, 9, 9), 0);
        due("sheet, missing", x.sheet(3, 0, 0, 0), -3);
        due("mend", x.mend(), 0);
        due("reach", x.reach(), 0);
        due("kinds", x.kinds(99), 0);
        due("keep", x.keep(0), true);
        due("again then", x.again(0), true);
    }

    @Says("No VILLAGES, no FEASTS.")
    private static void p01OneObjectLeavesAnotherAlone() {
        OneFiddle x = Twins.busy();
        OneFiddle y = new OneFiddle();
        due("a new one beside a busy one", y.count(0) + y.count(2) + y.count(3) + y.count(11) + y.count(14), 0);
        y.set(0, 1);
        due("REACH of the busy one", x.set(0, 19), 19);
    }

    // ---- 2

    @Says("Four signs come behind THE TEXT, of v the highest byte first: how many it has.")
    private static void p02FourSignsHighestByteFirst() {
        OneFiddle x = with("v0", "");
        due("4", x.sign(0x61626364), 4);
        due("8", x.sign(0x65666761), 8);
        due("it is abcdefga", x.tune(0), 0);
        tell(x, "abcdefga").got();
        row("it is abcdefga", x, 0);
        due("4 again", x.sign(0x62623b3b), 4);
        due("2", x.end(2), true);
        due("behind two", x.sign(0x63636363), 6);
        due("bbcccc", x.tune(0), 1);
        tell(x, "bbcccc").got();
        row("it is bbcccc", x, 0);
    }

    @Says("of v the highest byte first")
    private static void p02SignsBeyond127AreNotCut() {
        OneFiddle x = with("v0", "");
        int[] vs = {0xe1616161, 0x61e16161, 0x6161e161, 0x616161e1, MIN_VALUE, -1, 0x61616100, 0};
        int[] places = {0, 1, 2, 3, 0, 0, 3, 0};
        for (int k = 0; k < vs.length; k++) {
            due("four", x.sign(vs[k]), 4);
            due("the sign that can't stand", x.tune(0), -1 - places[k]);
        }
        int digit = 0x76b13b76;
        x.sign(digit);
        due("a digit with its highest bit", x.hills(), -2);
    }

    @Says("Refused: there would be more than 80.")
    private static void p02EightySignsAndNo81() {
        OneFiddle x = new OneFiddle();
        for (int k = 1; k <= 20; k++) {
            due("sign " + k, x.sign(0x76353b76), 4 * k);
        }
        due("84", x.sign(0x76353b76), -1);
        due("still 80", x.count(14), 80);
        int[] lengths = {76, 77, 78, 79, 80};
        for (int length : lengths) {
            OneFiddle y = tell(new OneFiddle(), "v5;".repeat(26) + "v5");
            due("80 of them", y.count(14), 80);
            y.end(length);
            due("sign behind " + length, y.sign(0x78787878), length == 76 ? 80 : -1);
            due("length then", y.count(14), length == 76 ? 80 : length);
        }
        OneFiddle z = tell(Twins.busy(), "a".repeat(77));
        OneFiddle same = tell(Twins.busy(), "a".repeat(77));
        due("refused", z.sign(0x61616161), -1);
        Twins.alike("refused, it", z, same);
    }

    // ---- 3

    @Says("THE TEXT has its first n signs alone: true;")
    private static void p03TheFirstSignsAlone() {
        OneFiddle x = with("v0", "");
        tell(x, "abcdefg");
        due("all of them", x.end(7), true);
        due("7", x.count(14), 7);
        due("three", x.end(3), true);
        due("3", x.count(14), 3);
        due("it is abc", x.tune(0), 0);
        got(x, "abc");
        row("it is abc", x, 0);
        tell(x, "abcd");
        due("none", x.end(0), true);
        due("0", x.count(14), 0);
        due("none of none", x.end(0), true);
        due("what was cut off is gone", x.tune(0), -1);
        OneFiddle full = tell(new OneFiddle(), "v".repeat(80));
        due("80 of 80", full.end(80), true);
        due("80", full.count(14), 80);
    }

    @Says("false if it has not so many, or n is below 0.")
    private static void p03NotSoManyOrBelow0() {
        int[] ill = {4, 5, 80, 81, MAX_VALUE, -1, -3, MIN_VALUE};
        for (int n : ill) {
            Twins.refuses("end(" + n + ") of 3", 0, x -> x.end(n) ? 1 : 0);
        }
        OneFiddle none = new OneFiddle();
        due("1 of none", none.end(1), false);
        due("-1 of none", none.end(-1), false);
        OneFiddle full = tell(new OneFiddle(), "v".repeat(80));
        due("81 of 80", full.end(81), false);
        due("80 still", full.count(14), 80);
        full.end(40);
        due("what was cut off does not come back", full.end(41), false);
    }

    // ---- 4

    private static void refusesHills(String before, String text, int place) {
        OneFiddle x = with(before, "");
        due("'" + text + "' behind '" + before + "'", hills(x, text), -1 - place);
        OneFiddle same = with(before, "");
        due("VILLAGES of '" + text + "'", x.count(0), same.count(0));
        due("ROADS of '" + text + "'", x.count(1), same.count(1));
    }

    @Says("THE TEXT tells of THE HILLS (an empty one: nothing): how many LINES.")
    private static void p04HowManyLines() {
        due("one", hills(new OneFiddle(), "v1"), 1);
        due("six", hills(new OneFiddle(), HILLS), 6);
        due("15 of 74 signs", hills(with("v0;v0", ""), "rab1;".repeat(14) + "rab1"), 15);
        due("none", new OneFiddle().hills(), 0);
    }

    @Says("(an empty one: nothing)")
    private static void p04AnEmptyTextTellsNothing() {
        OneFiddle x = Twins.busy();
        OneFiddle y = Twins.busy();
        x.end(0);
        y.end(0);
        due("empty", x.hills(), 0);
        Twins.alike("an empty one", x, y);
    }

    @Says("-1 - p: the sign at p can't stand there")
    private static void p04TheSignThatCantStandThere() {
        String[] texts = {"x", "5", ";", "a", "R", " v5", "vv", "v;", "v5v", "v5x", "v5;x", "v5;;", "v\u0000", "v5\u00ff", "\u00f65"};
        int[] places = {0, 0, 0, 0, 0, 0, 1, 1, 2, 2, 3, 3, 1, 2, 0};
        for (int k = 0; k < texts.length; k++) {
            refusesHills("", texts[k], places[k]);
        }
        String[] roads = {"r5", "r;", "rab;", "rabx", "rab-1", "rab1x", "rab12x", "rab1;rab", "rab1;rabv"};
        int[] roadPlaces = {1, 1, 3, 3, 3, 4, 5, 8, 8};
        for (int k = 0; k < roads.length; k++) {
            refusesHills("v0;v0", roads[k], roadPlaces[k]);
        }
    }

    @Says("(its end, if it ends too early;")
    private static void p04EndsTooEarly() {
        String text = "v5;v5;rab5;";
        boolean[] whole = {true, false, true, false, false, true, false, false, false, false, true, false};
        for (int k = 1; k <= text.length(); k++) {
            String head = text.substring(0, k);
            if (!whole[k]) {
                refusesHills("", head, k);
            } else {
                due("'" + head + "' is whole", hills(new OneFiddle(), head) > 0, true);
            }
        }
        refusesHills("v0;v0", "rab1;".repeat(15) + "r", 76);
        refusesHills("v0;v0", "rab12;" + "rab1;".repeat(14), 76);
    }

    @Says("76, if it has more and the first 76 could go on or end;")
    private static void p04MoreThan76Signs() {
        String end = "rab12;" + "rab1;".repeat(13) + "rab12";
        for (String more : new String[] {";", "x", "1", ";v1", "xxxx", "\u0000"}) {
            refusesHills("v0;v0", end + more, 76);
        }
        String fifteen = "rab1;".repeat(15);
        for (String cut : new String[] {"rab1", "rab12", "rxyz5", "v12", "r1234"}) {
            refusesHills("v0;v0", fifteen + cut, 76);
        }
        refusesHills("v0;v0", "rab12;rab12;" + "rab1;".repeat(12) + "rab12", 76);
        refusesHills("v0;v0", "rab12;" + "rab1;".repeat(14) + "rab1", 76);
        refusesHills("v0;v0", fifteen + "x1234", 75);
        refusesHills("v0;v0", "x" + fifteen + "rab", 0);
        refusesHills("v0;v0", "rab12;rab12;rab12;" + "rab1;".repeat(11) + "rabx5", 76);
        refusesHills("v0;v0", "rab12;rab12;" + "rab1;".repeat(12) + "rabx5", 75);
    }

    @Says("MILES of 0: at the last digit;")
    private static void p04MilesOf0AtTheLastDigit() {
        refusesHills("v0;v0", "rab0", 3);
        refusesHills("v0;v0", "rab00", 4);
        refusesHills("v0;v0", "rab0;rab1", 3);
        refusesHills("v0;v0", "rab00;rab1", 4);
        refusesHills("v0;v0", "rab0x", 3);
        refusesHills("v0;v0", "rab000", 4);
        refusesHills("v0;v0", "rab1;rab0", 8);
        refusesHills("v0;v0", "rab12;rab12;" + "rab1;".repeat(12) + "rab0", 75);
        refusesHills("v0;v0", "rab12;" + "rab1;".repeat(13) + "rab00", 75);
        due("01 is not 0", hills(with("v0;v0", ""), "rab01"), 1);
        due("10 is not 0", hills(with("v0;v0", ""), "rab10"), 1);
    }

    @Says("a letter of no VILLAGE, or like the one ahead: at it;")
    private static void p04LettersOfNoVillageOrLike() {
        refusesHills("", "rab5", 1);
        refusesHills("v0", "rab5", 2);
        refusesHills("v0", "rba5", 1);
        refusesHills("v0", "raa5", 2);
        refusesHills("v0;v0", "rac5", 2);
        refusesHills("v0;v0", "rca5", 1);
        refusesHills("v0;v0", "rbb5", 2);
        refusesHills("v0;v0", "rab5;rac5;v0", 7);
        refusesHills("v0;v0", "v0;rcd5", 5);
        refusesHills(NINE, "raj5", 2);
        refusesHills(NINE, "rja5", 1);
        due("one of this text", hills(with("v0;v0", ""), "v0;rca5"), 2);
    }

    @Says("the first sign of a LINE for which there is no room).")
    private static void p04NoRoomForALine() {
        refusesHills(NINE, "v0", 0);
        refusesHills(NINE, "v", 0);
        refusesHills(NINE, "rab5;v0", 5);
        refusesHills("", NINE + ";v9", 27);
        refusesHills("v0", NINE, 24);
        OneFiddle x = with(NINE, "");
        hills(x, TWELVE);
        hills(x, TWELVE);
        due("24", x.count(1), 24);
        due("the 25th", hills(x, "rab5"), -1);
        due("the 25th, ill", hills(x, "rzz"), -1);
        due("24 still", x.count(1), 24);
        OneFiddle y = with("v0;v0", "");
        hills(y, "rab1;".repeat(14) + "rab1");
        due("the 25th behind nine of its text", hills(y, "rab1;".repeat(9) + "rab1"), -46);
        due("15 still", y.count(1), 15);
        due("a VILLAGE behind the 24th", hills(y, "rab1;".repeat(9) + "v1"), 10);
    }

    @Says("Nothing of it comes, if a LINE can't.")
    private static void p04NothingOfItComes() {
        OneFiddle x = with("v1;v2;rab9", "a0-0$0*1");
        due("a shorter ROAD, then ill", hills(x, "rab1;v3;rac5;x"), -14);
        due("the ROAD is as it was", x.far(0, 1), 9);
        due("VILLAGES", x.count(0), 2);
        due("ROADS", x.count(1), 1);
        throwsNone("the third", () -> x.village(2, 0));
        hills(x, "v7");
        due("the next one's FOOD", x.village(2, 0), 7);
        due("no ROAD to it", x.far(0, 2), -2);
        due("the ROAD is as it was then, too", x.far(0, 1), 9);
        due("ROADS then", x.count(1), 1);
        Twins.refusesText("hills", -10, "v1;rab5;v", y -> y.hills());
        Twins.refusesText("hills", -77, "rab12;" + "rab1;".repeat(13) + "rab12;", y -> y.hills());
    }

    // ---- 5

    private static void refusesFeasts(String before, String text, int place) {
        OneFiddle x = with("v0;v0", before);
        int were = x.count(2);
        due("'" + text + "' behind '" + before + "'", feasts(x, text), -1 - place);
        due("FEASTS of '" + text + "'", x.count(2), were);
    }

    @Says("THE TEXT tells of FEASTS (an empty one: nothing): how many LINES.")
    private static void p05HowManyLines() {
        OneFiddle x = with("v0;v0", "");
        due("one", feasts(x, "b9-10$11*1"), 1);
        due("two", feasts(x, "a0-0$0*1;b0-0$0*1"), 2);
        due("three", x.count(2), 3);
        due("eight", feasts(with("v0", ""), EIGHT), 8);
    }

    @Says("(an empty one: nothing)")
    private static void p05AnEmptyTextTellsNothing() {
        OneFiddle x = Twins.busy();
        OneFiddle y = Twins.busy();
        x.end(0);
        y.end(0);
        due("empty", x.feasts(), 0);
        Twins.alike("an empty one", x, y);
    }

    @Says("-1 - p: likewise")
    private static void p05TheSignThatCantStandThere() {
        String[] texts = {"x", "c0-0$0*1", "5", "A0-0$0*1", "a-", "a0$", "a0--", "a0-0*", "a0-0$*", "a0-0$0$", "a0-0$0*0",
            "a0-0$0*x", "a0-0$0*11", "a000", "a0-000", "a0-0$000", "a0-0$0*1x", "a0-0$0*1;c", "a0-0$0*1;;",
            "a-0$0*1", "a0$0*1", "a00$0*1", "a0-$0*1", "a0-0*1", "a0-00*1", "a0-0$*1", "a0-0$01", "a0-0$0"};
        int[] places = {0, 0, 0, 0, 1, 2, 3, 4, 5, 6, 7,
            7, 8, 3, 5, 7, 8, 9, 9,
            1, 2, 3, 3, 4, 5, 5, 7, 6};
        for (int k = 0; k < texts.length; k++) {
            refusesFeasts("", texts[k], places[k]);
        }
        due("no VILLAGES", feasts(new OneFiddle(), "a0-0$0*1"), -1);
    }

    @Says("-1 - p: likewise")
    private static void p05EndsTooEarly() {
        String line = "b12-34$56*7";
        for (int k = 1; k < line.length(); k++) {
            String head = line.substring(0, k);
            // a second night of 3 alone is less than 12
            refusesFeasts("", head, head.endsWith("-3") ? 4 : k);
        }
        refusesFeasts("", line + ";", 12);
        refusesFeasts("", line + ";b", 13);
        refusesFeasts("", "a10-11$10*1;".repeat(6) + "a1-1", 76);
    }

    @Says("-1 - p: likewise")
    private static void p05MoreThan76Signs() {
        String most = "a0-10$10*1;a0-10$10*1;a0-10$1*1" + ";a0-0$0*1".repeat(5);
        due("its signs", most.length(), 76);
        for (String more : new String[] {";", "x", "1", "1234"}) {
            refusesFeasts("", most + more, 76);
        }
        String six = "a10-11$10*1;".repeat(6);
        refusesFeasts("", six + "a1-1$1*1", 76);
        refusesFeasts("", six + "a1-1x", 76);
        refusesFeasts("", six + "a12-x", 76);
        refusesFeasts("", six + "a1xy5", 74);
        refusesFeasts("", six + "c1-1$1*1", 72);
        refusesFeasts("", six + "a123-5", 75);
    }

    @Says("(a second night that is less: at its last digit, among the first 76).")
    private static void p05ASecondNightThatIsLess() {
        refusesFeasts("", "a1-0$1*1", 3);
        refusesFeasts("", "a99-98$1*1", 5);
        refusesFeasts("", "a10-9$1*1", 4);
        refusesFeasts("", "a10-09$1*1", 5);
        refusesFeasts("", "a10-9x", 4);
        refusesFeasts("", "a10-9", 4);
        refusesFeasts("", "a10-1", 4);
        refusesFeasts("", "a5-4;a5-5$5*5", 3);
        refusesFeasts("", "a0-0$0*1;a2-1$0*1", 12);
        refusesFeasts("a0-0$0*1", "a2-1$0*1", 3);
        String six = "a10-11$10*1;".repeat(6);
        refusesFeasts("", six + "a2-11$1*", 75);
        refusesFeasts("", six + "a2-1", 75);
        refusesFeasts("", six + "a1-1", 76);
        refusesFeasts("", "a10-11$1*1;" + "a10-11$10*1;".repeat(5) + "a20-19$1", 75);
        refusesFeasts("", "a10-11$1*1;" + "a10-11$10*1;".repeat(5) + "a20-193$", 75);
    }

    @Says("-1 - p: likewise")
    private static void p05ALetterOfNoVillage() {
        refusesFeasts("", "c0-0$0*1", 0);
        refusesFeasts("", "a0-0$0*1;c0-0$0*1", 9);
        OneFiddle x = with(NINE, "");
        due("i", feasts(x, "i0-0$0*1"), 1);
        due("j", feasts(x, "j0-0$0*1"), -1);
        due("`", feasts(x, "`0-0$0*1"), -1);
    }

    @Says("-1 - p: likewise")
    private static void p05NoRoomForALine() {
        refusesFeasts(EIGHT, "a0-0$0*1", 0);
        refusesFeasts(EIGHT, "a", 0);
        refusesFeasts("a0-0$0*1", EIGHT, 63);
        refusesFeasts("a0-0$0*1;a0-0$0*1", EIGHT, 54);
        refusesFeasts("", EIGHT + ";a", 72);
        refusesFeasts("", EIGHT + ";", 72);
    }

    @Says("-1 - p: likewise")
    private static void p05NothingOfItComes() {
        OneFiddle x = ordinary();
        due("the second is ill", feasts(x, "a7-8$9*1;d0-0$0*1"), -10);
        due("four still", x.count(2), 4);
        throwsNone("no fifth", () -> x.feast(4, 0));
        due("BITS there", x.village(0, 1), 4);
        feasts(x, "c70-80$90*2");
        due("the fifth is another one", x.feast(4, 0) * 100 + x.feast(4, 1), 270);
        Twins.refusesText("feasts", -12, "a0-0$0*1;a1", y -> y.feasts());
        Twins.refusesText("feasts without room for the third", -25, "a10-11$10*1;".repeat(6) + "a1-1$1*1", y -> y.feasts());
    }

    // ---- 6

    private static void refusesRule(String text, int place) {
        OneFiddle x = ordinary();
        rule(x, "42");
        due("'" + text + "'", rule(x, text), -1 - place);
        x.night(1);
        due("THE RULE stays behind '" + text + "'", x.count(5), 42);
    }

    @Says("THE TEXT is THE RULE (an empty one: none): 0.")
    private static void p06TheTextIsTheRule() {
        OneFiddle x = ordinary();
        due("one", rule(x, "t*2"), 0);
        x.night(1);
        due("t*2", x.count(5), 10);
        due("another one", rule(x, "1"), 0);
        x.night(0);
        due("1 more", x.count(5), 11);
    }

    @Says("(an empty one: none)")
    private static void p06AnEmptyTextIsNone() {
        OneFiddle x = ordinary();
        rule(x, "99");
        due("empty", x.rule(), 0);
        x.night(1);
        due("m/2+t-f/3", x.count(5), 8);
        row("as none was told", x, 9, 10, 8);
    }

    @Says("-1 - p: as hills() (40 signs).")
    private static void p06TheSignThatCantStandThere() {
        String[] texts = {"x", ")", "+", "<", "*", "v", " 1", "1x", "1 ", "1(", "m1", "1m", "(", "(1", "(1+", "1+", "1<", "-", "1<2>3",
            "(((((", "1+((((2+(", "1234", "()", "1\u0000", "m\u00ff", "\u00ed"};
        int[] places = {0, 0, 0, 0, 0, 0, 0, 1, 1, 1, 1, 1, 1, 2, 3, 2, 2, 1, 3,
            4, 8, 3, 1, 1, 1, 0};
        for (int k = 0; k < texts.length; k++) {
            refusesRule(texts[k], places[k]);
        }
        Twins.refusesText("rule", -3, "1+", y -> y.rule());
        Twins.refusesText("rule", -41, "1+".repeat(20) + "1", y -> y.rule());
    }

    @Says("-1 - p: as hills() (40 signs).")
    private static void p06NothingIsLeftOfTheTextAhead() {
        String[] ahead = {"-", "--(", "1----2", "2*3+4-5*(6-7)*-8", "((((1<2))))", "1-", "1*", "1/", "1<", "(((1<2", "((((", "1=2=3", "9-(8*(7", "1+2*-", "5)", "99+98+97"};
        String[] well = {"5", "2*3+4", "1<2", "(1<2)+(3<4)", "((((6))))", "-2+9", "m-t", "--5", "-5", ""};
        int[] want = {5, 10, 1, 2, 6, 7, 5, 5, 0, 8};
        for (String text : ahead) {
            for (int k = 0; k < well.length; k++) {
                OneFiddle x = ordinary();
                rule(x, text);
                due("'" + well[k] + "' behind '" + text + "'", rule(x, well[k]), 0);
                x.night(1);
                due("'" + well[k] + "' behind '" + text + "'", x.count(5), want[k]);
            }
        }
    }

    @Says("(40 signs).")
    private static void p06FortySignsAndNot41() {
        String most = "m+".repeat(19) + "t";
        due("39 signs", most.length(), 39);
        due("39", rule(ordinary(), most), 0);
        due("40", rule(ordinary(), "-" + most), 0);
        refusesRule("--" + most, 40);
        refusesRule("-" + most + ")", 40);
        refusesRule("-" + most + "x1", 40);
        refusesRule("(" + most + ")", 40);
        refusesRule("1+".repeat(18) + "1x+12", 37);
        refusesRule("1+".repeat(19) + "1x12", 39);
        refusesRule("1+".repeat(19) + "1+", 40);
        refusesRule("1+".repeat(19) + "(1)", 40);
        refusesRule("1+".repeat(18) + "1234", 39);
        refusesRule("1".repeat(80), 3);
        due("as hills, 80 signs", rule(ordinary(), "1+".repeat(39) + "12"), -41);
    }

    // ---- 7

    @Says("Of a VILLAGE, what 0: FOOD,")
    private static void p07Food() {
        OneFiddle x = with("v9;v0;v5", "");
        due("9", x.village(0, 0), 9);
        due("0", x.village(1, 0), 0);
        due("5", x.village(2, 0), 5);
    }

    @Says("1: FEASTS there (bits),")
    private static void p07FeastsThere() {
        OneFiddle x = ordinary();
        due("a", x.village(0, 1), 4);
        due("b", x.village(1, 1), 9);
        due("c", x.village(2, 1), 2);
        x.night(1);
        due("played ones too", x.village(1, 1), 9);
        x.stay(60);
        due("those that are over too", x.village(0, 1), 4);
        due("none", with("v0;v0", "a0-0$0*1").village(1, 1), 0);
        due("all eight", with("v0", EIGHT).village(0, 1), 255);
    }

    @Says("2: of these those that are not played and in whose span NIGHT is,")
    private static void p07FeastsThatWait() {
        int[] want = {0, 0, 1, 1, 0};
        OneFiddle x = with("v0;v0;rab1", "b2-3$0*1");
        for (int night = 0; night < want.length; night++) {
            due("2 to 3, night " + night, x.village(1, 2), want[night]);
            due("elsewhere", x.village(0, 2), 0);
            x.stay(1);
        }
        OneFiddle y = with("v0", "a0-9$0*1;a1-9$0*1");
        due("ahead of it", y.village(0, 2), 1);
        y.stay(1);
        due("played, and one begins", y.village(0, 2), 2);
        y.set(2, 0);
        y.set(3, 99);
        due("in LENT too", y.village(0, 2), 2);
    }

    @Says("3: MILES from where he is by the shortest way (NONE: none).")
    private static void p07MilesFromWhereHeIs() {
        OneFiddle x = with(HILLS + ";v0", "");
        due("here", x.village(0, 3), 0);
        due("near", x.village(1, 3), 10);
        due("by two ROADS", x.village(2, 3), 25);
        due("no way", x.village(3, 3), -1);
        x.night(1);
        due("from there", x.village(2, 3) * 100 + x.village(0, 3), 1510);
        hills(x, "rcd99");
        due("a way that came", x.village(3, 3), 114);
    }

    @Says("NoSuchElementException: none such, another what.")
    private static void p07NoneSuch() {
        OneFiddle x = ordinary();
        int[] villages = {3, 9, -1, MAX_VALUE, MIN_VALUE};
        for (int v : villages) {
            for (int what = 0; what < 4; what++) {
                int asked = what;
                throwsNone("village(" + v + ", " + what + ")", () -> x.village(v, asked));
            }
        }
        int[] whats = {4, -1, MAX_VALUE, MIN_VALUE};
        for (int what : whats) {
            throwsNone("what " + what, () -> x.village(0, what));
        }
        OneFiddle nine = with(NINE, "");
        due("the ninth", nine.village(8, 0), 8);
        throwsNone("the tenth", () -> nine.village(9, 0));
        OneFiddle a = Twins.busy();
        OneFiddle b = Twins.busy();
        throwsNone("none such", () -> a.village(4, 0));
        Twins.alike("none such", a, b);
    }

    // ---- 8

    @Says("Of a FEAST, what 0: the VILLAGE, 1: from, 2: to, 3: BID, 4: TUNES,")
    private static void p08WhatWasTold() {
        OneFiddle x = with(NINE, "i0-99$98*9;a7-7$0*1");
        int[] first = {8, 0, 99, 98, 9};
        int[] second = {0, 7, 7, 0, 1};
        for (int what = 0; what < 5; what++) {
            due("feast(0, " + what + ")", x.feast(0, what), first[what]);
            due("feast(1, " + what + ")", x.feast(1, what), second[what]);
        }
        x.move(1, 2);
        x.sheet(2, 8, 3, 2);
        due("moved", x.feast(1, 1) * 10 + x.feast(1, 2), 99);
        due("another BID", x.feast(0, 3) * 10 + x.feast(1, 3), 35);
    }

    @Says("5: 1 if played,")
    private static void p08Played() {
        OneFiddle x = with("v0", "a0-0$0*1;a1-1$0*1");
        due("not yet", x.feast(0, 5), 0);
        x.stay(1);
        due("played", x.feast(0, 5), 1);
        due("the other one not", x.feast(1, 5), 0);
        x.undo();
        due("undone", x.feast(0, 5), 0);
    }

    @Says("6: 1 if it can't be any more (not played, to is less than NIGHT).")
    private static void p08CantBeAnyMore() {
        OneFiddle x = with("v0;v0;rab1", "b0-2$0*1;a0-0$0*1");
        int[] over = {0, 0, 0, 1, 1};
        for (int night = 0; night < over.length; night++) {
            due("to 2, NIGHT " + night, x.feast(0, 6), over[night]);
            due("played ones are not over", x.feast(1, 6), 0);
            x.stay(1);
        }
        x.move(0, 9);
        due("moved on", x.feast(0, 6), 0);
    }

    @Says("NoSuchElementException: likewise.")
    private static void p08NoneSuch() {
        OneFiddle x = ordinary();
        int[] feasts = {4, 8, -1, MAX_VALUE, MIN_VALUE};
        for (int f : feasts) {
            for (int what = 0; what < 7; what++) {
                int asked = what;
                throwsNone("feast(" + f + ", " + what + ")", () -> x.feast(f, asked));
            }
        }
        int[] whats = {7, -1, MAX_VALUE, MIN_VALUE};
        for (int what : whats) {
            throwsNone("what " + what, () -> x.feast(0, what));
        }
        OneFiddle eight = with("v0", EIGHT);
        due("the eighth", eight.feast(7, 4), 1);
        throwsNone("the ninth", () -> eight.feast(8, 4));
        OneFiddle a = Twins.busy();
        OneFiddle b = Twins.busy();
        throwsNone("none such", () -> a.feast(6, 0));
        Twins.alike("none such", a, b);
    }

    // ---- 9

    private static void takes(int what, int first, int... values) {
        OneFiddle x = ordinary();
        int was = first;
        for (int v : values) {
            due("set(" + what + ", " + v + ")", x.set(what, v), was);
            was = v;
        }
        due("the latest one", x.set(what, first), was);
    }

    private static void takesNot(int what, int... values) {
        for (int v : values) {
            Twins.refuses("set(" + what + ", " + v + ")", -1, x -> x.set(what, v));
        }
    }

    @Says("REACH (what 0; 1 .. 99),")
    private static void p09Reach() {
        takes(0, 20, 1, 99, 50);
        takesNot(0, 0, -1, 100, MAX_VALUE, MIN_VALUE);
    }

    @Says("MOON (1; 0 .. 30),")
    private static void p09Moon() {
        takes(1, 0, 30, 1, 0, 15);
        takesNot(1, -1, 31, MAX_VALUE, MIN_VALUE);
    }

    @Says("the first night of LENT (2; 0 .. 99),")
    private static void p09FirstNightOfLent() {
        takes(2, 99, 0, 99, 40);
        takesNot(2, -1, 100, MAX_VALUE, MIN_VALUE);
    }

    @Says("the last one (3; 0 .. 99;")
    private static void p09LastNightOfLent() {
        takes(3, 0, 99, 0, 40);
        takesNot(3, -1, 100, MAX_VALUE, MIN_VALUE);
    }

    @Says("LENT is none, if it is less than the first; at first 99 and 0) becomes v: what it was.")
    private static void p09LentIsNone() {
        OneFiddle x = ordinary();
        x.kinds(99);
        row("at first", x, 0, 0);
        due("99", x.set(2, 10), 99);
        x.kinds(99);
        row("10 to 0", x, 0, 0);
        due("0", x.set(3, 9), 0);
        x.kinds(99);
        row("10 to 9", x, 0, 0);
        due("9", x.set(3, 10), 9);
        x.kinds(99);
        row("10 to 10", x, 1, 0);
        due("10", x.set(2, 0), 10);
        x.kinds(99);
        row("0 to 10", x, 11, 0);
        x.set(2, 11);
        x.kinds(99);
        row("11 to 10", x, 0, 0);
    }

    @Says("Refused: others.")
    private static void p09OtherThings() {
        for (int what : new int[] {4, -1, MAX_VALUE, MIN_VALUE}) {
            for (int v : new int[] {0, 1, 30, 99}) {
                Twins.refuses("set(" + what + ", " + v + ")", -1, x -> x.set(what, v));
            }
        }
    }

    // ---- 10

    private static OneFiddle four() {
        return with("v0", "a0-0$11*1;a0-0$12*1;a0-0$13*1;a0-0$14*1");
    }

    private static void sheet(int kind, int n, int f, int step, int... want) {
        OneFiddle x = four();
        int sum = 0;
        for (int bid : want) {
            sum += bid;
        }
        String what = "sheet(" + kind + ", " + n + ", " + f + ", " + step + ")";
        due(what, x.sheet(kind, n, f, step), sum);
        for (int k = 0; k < 4; k++) {
            due(what + ": BID " + k, x.feast(k, 3), want[k]);
        }
    }

    @Says("BIDS of FEASTS 0, 1, .., as a sheet tells them: bytes (kind 0), shorts (1), ints (2) of n entries f, f + step, ..")
    private static void p10Entries() {
        for (int kind = 0; kind < 3; kind++) {
            sheet(kind, 4, 5, 3, 5, 8, 11, 14);
            sheet(kind, 4, 50, -10, 50, 40, 30, 20);
            sheet(kind, 4, 7, 0, 7, 7, 7, 7);
        }
    }

    @Says("(of bytes, shorts the lowest bits, with their sign;")
    private static void p10LowestBitsWithTheirSign() {
        sheet(0, 4, 127, 1, 99, 0, 0, 0);
        sheet(0, 4, 255, 1, 0, 0, 1, 2);
        sheet(0, 4, 256, 1, 0, 1, 2, 3);
        sheet(0, 4, -256, 99, 0, 99, 0, 41);
        sheet(0, 4, 32768, 5, 0, 5, 10, 15);
        sheet(1, 4, 32767, 1, 99, 0, 0, 0);
        sheet(1, 4, 65535, 1, 0, 0, 1, 2);
        sheet(1, 4, 65536, 1, 0, 1, 2, 3);
        sheet(1, 4, 255, 1, 99, 99, 99, 99);
        sheet(1, 4, -65536, 9, 0, 9, 18, 27);
        sheet(2, 4, 65536, 1, 99, 99, 99, 99);
        sheet(2, 4, -65536, 1, 0, 0, 0, 0);
    }

    @Says("put to 0 .. 99),")
    private static void p10PutTo0To99() {
        sheet(2, 4, 98, 1, 98, 99, 99, 99);
        sheet(2, 4, 1, -1, 1, 0, 0, 0);
        sheet(2, 4, MAX_VALUE, 0, 99, 99, 99, 99);
        sheet(2, 4, MIN_VALUE, 0, 0, 0, 0, 0);
    }

    @Says("ints (2) of n entries f, f + step, ..")
    private static void p10EntriesWrapAround() {
        sheet(2, 4, MAX_VALUE, 1, 99, 0, 0, 0);
        sheet(2, 4, MIN_VALUE, -1, 0, 99, 99, 99);
        sheet(2, 4, 5, MAX_VALUE, 5, 0, 3, 0);
        sheet(2, 4, 5, MIN_VALUE, 5, 0, 5, 0);
        sheet(0, 4, 5, MIN_VALUE, 5, 5, 5, 5);
        sheet(1, 4, 7, MAX_VALUE, 7, 6, 5, 4);
    }

    @Says("or a missing one (3): those behind it have 0: the sum of all that there are (entries beyond them are left aside).")
    private static void p10BehindTheSheetAndBeyond() {
        sheet(2, 0, 9, 9, 0, 0, 0, 0);
        sheet(2, 1, 9, 9, 9, 0, 0, 0);
        sheet(0, 3, 9, 9, 9, 18, 27, 0);
        sheet(1, 4, 9, 9, 9, 18, 27, 36);
        sheet(1, 5, 9, 9, 9, 18, 27, 36);
        sheet(2, 8, 9, 9, 9, 18, 27, 36);
        OneFiddle x = four();
        x.sheet(2, 8, 50, 1);
        feasts(x, "a0-0$7*1");
        due("entries beyond are not kept", x.feast(4, 3), 7);
        due("no FEASTS", with("v0", "").sheet(2, 8, 9, 9), 0);
        due("eight", with("v0", EIGHT).sheet(2, 8, 1, 1), 36);
        OneFiddle played = four();
        played.stay(1);
        due("played ones too", played.sheet(2, 2, 9, 9), 27);
    }

    @Says("-2: n below 0 (of kinds 0 .. 2; nothing changes);")
    private static void p10BelowNoEntries() {
        for (int kind = 0; kind < 3; kind++) {
            int asked = kind;
            Twins.refuses("n -1 of kind " + kind, -2, x -> x.sheet(asked, -1, 5, 5));
            Twins.refuses("n MIN of kind " + kind, -2, x -> x.sheet(asked, MIN_VALUE, 5, 5));
        }
    }

    @Says("-3: missing (all 0).")
    private static void p10Missing() {
        for (int n : new int[] {0, 4, 8, -1, MIN_VALUE}) {
            OneFiddle x = four();
            x.kinds(3);
            due("missing, n " + n, x.sheet(3, n, 5, 5), -3);
            due("all 0, n " + n, x.feast(0, 3) + x.feast(1, 3) + x.feast(2, 3) + x.feast(3, 3), 0);
            row("the ROW stays", x, 0, 0);
        }
    }

    @Says("NONE: another kind, n above 8 (these first).")
    private static void p10AnotherKindOrMoreThan8() {
        for (int kind : new int[] {4, -1, MAX_VALUE, MIN_VALUE}) {
            for (int n : new int[] {2, -1, 9}) {
                Twins.refuses("kind " + kind + ", n " + n, -1, x -> x.sheet(kind, n, 5, 5));
            }
        }
        for (int kind = 0; kind <= 3; kind++) {
            int asked = kind;
            Twins.refuses("n 9 of kind " + kind, -1, x -> x.sheet(asked, 9, 5, 5));
            Twins.refuses("n MAX of kind " + kind, -1, x -> x.sheet(asked, MAX_VALUE, 5, 5));
        }
    }
}
