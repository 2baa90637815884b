import static java.lang.Integer.MAX_VALUE;
import static java.lang.Integer.MIN_VALUE;

/** Promises 17 to 27, sentence by sentence: each test bears the words that it holds the class to. */
public final class RoundsPromisesTest extends Check {
    private static final String HILLS = "v3;v6;v0;rab10;rbc15;rac30";
    private static final String FEASTS = "b0-2$9*5;c1-3$20*9;a2-2$7*4;b2-5$4*8";
    private static final String NINE = "v0;v0;v0;v0;v0;v0;v0;v0;v0";
    private static final String CHAIN = "rab20;rbc20;rcd20;rde20;ref20;rfg20;rgh20;rhi20";

    public static void main(String[] args) throws Exception {
        Sentences.run(RoundsPromisesTest.class, "p17", "p18", "p19", "p20", "p21", "p22", "p23", "p24", "p25", "p26", "p27");
    }

    private static OneFiddle ordinary() {
        return with(HILLS, FEASTS);
    }

    private static OneFiddle chain() {
        OneFiddle x = with(NINE, "");
        due("a chain", hills(x, CHAIN), 8);
        return x;
    }

    private static final int[] NOT_0_TO_10 = {11, 12, 99, -1, MAX_VALUE, MIN_VALUE};

    // ---- 17

    @Says("MILES by the shortest way from a VILLAGE to another one, or the same: how many;")
    private static void p17Miles() {
        OneFiddle x = ordinary();
        int[][] miles = {{0, 10, 25}, {10, 0, 15}, {25, 15, 0}};
        for (int from = 0; from < 3; from++) {
            for (int to = 0; to < 3; to++) {
                due("far(" + from + ", " + to + ")", x.far(from, to), miles[from][to]);
            }
        }
        x.night(1);
        due("wherever he is", x.far(0, 2), 25);
        x.set(0, 1);
        due("however far he walks", x.far(0, 2), 25);
        OneFiddle longest = with(NINE, "");
        hills(longest, "rab99;rbc99;rcd99;rde99;ref99;rfg99;rgh99;rhi99");
        due("the longest", longest.far(0, 8), 792);
        due("the first without any ROAD", with("v0", "").far(0, 0), 0);
    }

    @Says("the ROW: the VILLAGES in turn, both too:")
    private static void p17VillagesInTurn() {
        OneFiddle x = ordinary();
        x.far(0, 2);
        row("three", x, 0, 1, 2);
        x.far(2, 0);
        row("back", x, 2, 1, 0);
        x.far(1, 2);
        row("two", x, 1, 2);
        x.far(2, 2);
        row("the same", x, 2);
        OneFiddle nine = chain();
        nine.far(8, 0);
        row("nine", nine, 8, 7, 6, 5, 4, 3, 2, 1, 0);
        nine.far(0, 8);
        row("nine, back", nine, 0, 1, 2, 3, 4, 5, 6, 7, 8);
    }

    @Says("of as short ones the least row.")
    private static void p17TheLeastRow() {
        OneFiddle x = with("v0;v0;v0;v0;rad6;rac3;rcd3;rab3;rbd3;rbc1", "");
        x.far(0, 3);
        row("of three", x, 0, 1, 3);
        x.far(3, 0);
        row("of three, back", x, 3, 0);
        OneFiddle y = with("v0;v0;v0;v0;v0;rae4;rad1;rde3;rdc1;rce2;rcb1;rbe1", "");
        y.far(0, 4);
        row("3 is less than 4", y, 0, 3, 2, 1, 4);
        hills(y, "rab3");
        y.far(0, 4);
        row("1 is less than 3", y, 0, 1, 4);
        hills(y, "rae3");
        y.far(0, 4);
        row("a shorter one", y, 0, 4);
    }

    @Says("-2: there is no way;")
    private static void p17NoWay() {
        Twins.refuses("far(0, 3)", -2, x -> x.far(0, 3));
        Twins.refuses("far(3, 1)", -2, x -> x.far(3, 1));
        OneFiddle x = with("v0;v0;v0;v0;rab1;rcd1", "");
        due("two parts", x.far(0, 2), -2);
        due("within a part", x.far(3, 2), 1);
    }

    @Says("NONE: none such.")
    private static void p17NoneSuch() {
        for (int v : new int[] {4, 9, -1, MAX_VALUE, MIN_VALUE}) {
            Twins.refuses("far(" + v + ", 0)", -1, x -> x.far(v, 0));
            Twins.refuses("far(0, " + v + ")", -1, x -> x.far(0, v));
            Twins.refuses("far(" + v + ", " + v + ")", -1, x -> x.far(v, v));
        }
        due("no VILLAGES", new OneFiddle().far(0, 0), -1);
    }

    // ---- 18

    @Says("VILLAGES (bits) to which he can go in this NIGHT (also where he is);")
    private static void p18Villages() {
        OneFiddle x = with("v0;v0;v0;v0;rab5;rbc6;rcd7", "");
        int[] reach = {1, 4, 5, 10, 11, 17, 18, 99};
        int[] want = {1, 1, 3, 3, 7, 7, 15, 15};
        for (int k = 0; k < reach.length; k++) {
            x.set(0, reach[k]);
            due("REACH " + reach[k], x.reach(), want[k]);
        }
        x.set(0, 6);
        x.night(1);
        due("from b", x.reach(), 7);
        x.set(1, 1);
        due("in a night without a moon", x.reach(), 2);
        due("nine", chain().reach(), 3);
        OneFiddle far = chain();
        hills(far, "rai20");
        due("the ninth", far.reach(), 1 + 2 + 256);
        due("no VILLAGES", new OneFiddle().reach(), 0);
        due("no ROADS", with(NINE, "").reach(), 1);
    }

    @Says("the ROW: how many MILES he can walk.")
    private static void p18MilesHeCanWalk() {
        OneFiddle x = with("v0", "");
        x.reach();
        row("at first", x, 20);
        x.set(0, 99);
        x.reach();
        row("99", x, 99);
        x.set(1, 2);
        x.reach();
        row("half, cut", x, 49);
        x.stay(1);
        x.reach();
        row("the next night", x, 99);
        x.set(1, 1);
        x.set(0, 1);
        x.reach();
        row("half of 1", x, 0);
        OneFiddle none = new OneFiddle();
        none.reach();
        row("no VILLAGES", none, 20);
    }

    // ---- 19

    @Says("The fewest NIGHTS by which he is at a VILLAGE, beginning now, sleeping at VILLAGES on the way, moonless ones as they come: "
        + "how many (0: he is there);")
    private static void p19FewestNights() {
        OneFiddle x = chain();
        for (int v = 0; v < 9; v++) {
            due("20 a night, to " + v, x.comes(v), v);
        }
        x.set(0, 40);
        due("40 a night", x.comes(8), 4);
        x.set(0, 99);
        due("99 a night", x.comes(8), 2);
        x.set(1, 1);
        due("49 a night", x.comes(8), 4);
        x.set(1, 2);
        due("49, 99", x.comes(8), 3);
        x.stay(1);
        due("99, 49, beginning now", x.comes(8), 3);
        due("99", x.comes(4), 1);
        OneFiddle y = with("v0;v0;v0;rab12;rbc12", "");
        y.set(1, 2);
        due("in nights 1 and 3", y.comes(2), 4);
        y.stay(1);
        due("in nights 1 and 3, from night 1", y.comes(2), 3);
        y.set(0, 24);
        due("in night 1", y.comes(2), 1);
        y.set(2, 0);
        y.set(3, 99);
        due("LENT is no matter", y.comes(2), 1);
    }

    @Says("beginning now, sleeping at VILLAGES on the way, moonless ones as they come")
    private static void p19MoonlessNightsFromNow() {
        int[] want = {5, 4, 4, 5};
        for (int night = 0; night < want.length; night++) {
            OneFiddle x = with("v0;v0;v0;v0;rab20;rbc20;rcd20", "");
            x.stay(night);
            x.set(1, 3);
            due("three ROADS from NIGHT " + night, x.comes(3), want[night]);
        }
        OneFiddle x = with("v0;v0;v0;v0;rab20;rbc20;rcd20", "");
        x.stay(1);
        x.set(1, 3);
        x.comes(3);
        row("from NIGHT 1, moonless in 3", x, 1, 2, 2, 3);
        x.stay(1);
        x.comes(3);
        row("from NIGHT 2, moonless in 3", x, 1, 1, 2, 3);
        x.comes(2);
        row("to c", x, 1, 1, 2);
        OneFiddle late = with("v0;v0;v0;rab5;rbc20", "");
        late.stay(1);
        late.set(1, 2);
        due("20 MILES in nights 1 and 3 alone", late.comes(2), 3);
        row("he may wait at a or at b", late, 0, 1, 2);
    }

    @Says("(0: he is there)")
    private static void p19HeIsThere() {
        OneFiddle x = chain();
        x.far(0, 1);
        due("there", x.comes(0), 0);
        row("nowhere", x);
        x.night(1);
        due("there then", x.comes(1), 0);
        due("back", x.comes(0), 1);
        x.set(0, 1);
        x.set(1, 1);
        due("however short he walks", x.comes(1), 0);
    }

    @Says("the ROW: where he sleeps, the last one too: of as few the least row (the first 12).")
    private static void p19WhereHeSleeps() {
        OneFiddle x = chain();
        x.comes(3);
        row("1, 2, 3", x, 1, 2, 3);
        x.comes(8);
        row("1 to 8", x, 1, 2, 3, 4, 5, 6, 7, 8);
        x.set(0, 40);
        x.comes(3);
        row("two nights: 1 is less than 2", x, 1, 3);
        x.comes(4);
        row("two nights, each of two", x, 2, 4);
        x.set(1, 3);
        x.comes(8);
        row("20, 40, 40, 20, 40", x, 1, 3, 5, 6, 8);
        x.set(0, 20);
        x.comes(8);
        row("the first 12 of 12", x, 0, 1, 2, 2, 3, 4, 4, 5, 6, 6, 7, 8);
        OneFiddle y = with("v0;v0;v0;v0;rad10;rcd10;rdb10;rbc5", "");
        y.night(3);
        y.set(0, 15);
        y.comes(2);
        row("near", y, 2);
        y.night(0);
        y.comes(2);
        row("by way of 3", y, 3, 2);
        OneFiddle wait = with("v0;v0;v0;rac10;rcb10", "");
        wait.set(0, 10);
        wait.set(1, 2);
        wait.comes(1);
        row("he waits at 0, then at 2", wait, 0, 2, 2, 1);
    }

    @Says("-2: not in 12;")
    private static void p19NotIn12() {
        OneFiddle x = chain();
        x.set(1, 2);
        due("in 12", x.comes(6), 12);
        x.comes(6);
        row("every other night", x, 0, 1, 1, 2, 2, 3, 3, 4, 4, 5, 5, 6);
        due("in 14", x.comes(7), -2);
        row("the ROW stays", x, 0, 1, 1, 2, 2, 3, 3, 4, 4, 5, 5, 6);
        x.stay(1);
        due("from night 1 in 11", x.comes(6), 11);
        due("from night 1 in 13", x.comes(7), -2);
        Twins.refuses("no way", -2, y -> y.comes(3));
        x.set(1, 1);
        due("never", x.comes(1), -2);
    }

    @Says("NONE: none such.")
    private static void p19NoneSuch() {
        for (int v : new int[] {4, 9, 31, 32, -1, MAX_VALUE, MIN_VALUE}) {
            Twins.refuses("comes(" + v + ")", -1, x -> x.comes(v));
        }
        due("no VILLAGES", new OneFiddle().comes(0), -1);
    }

    // ---- 20

    @Says("The most FEASTS that he can play in the next n NIGHTS (0 .. 10): how many;")
    private static void p20TheMostFeasts() {
        OneFiddle x = ordinary();
        int[] want = {0, 1, 2, 3, 3, 3, 3, 3, 3, 3, 3};
        for (int n = 0; n <= 10; n++) {
            due("round(" + n + ")", x.round(n), want[n]);
        }
        OneFiddle late = with("v0", "a0-0$0*1;a9-9$0*1;a10-10$0*1");
        due("the tenth night not in 9", late.round(9), 1);
        due("the tenth night", late.round(10), 2);
        late.stay(1);
        due("what was played is left aside, the eleventh night", late.round(10), 2);
        OneFiddle eight = with("v0;v0;rab1", "b1-1$0*1;b1-1$0*1;b1-1$0*1;b1-1$0*1;a0-0$0*1;a0-0$0*1;a0-0$0*1;a2-2$0*1");
        due("seven", eight.round(2), 7);
        due("eight", eight.round(3), 8);
        due("no FEASTS", with("v0", "").round(10), 0);
        OneFiddle poor = with("v0;v0;v0;rab1;rac1;rbc1", "b0-0$99*1;c0-0$0*1;c0-0$0*1");
        due("however poor", poor.round(1), 2);
        row("however poor", poor, 2);
    }

    @Says("the ROW: the VILLAGES night by night: of as good ones the least row.")
    private static void p20TheLeastRow() {
        OneFiddle x = ordinary();
        due("0", x.round(0), 0);
        row("0", x);
        x.round(3);
        row("3", x, 1, 2, 1);
        x.round(5);
        row("5", x, 0, 0, 1, 2, 1);
        x.round(10);
        row("10", x, 0, 0, 1, 2, 1, 0, 0, 0, 0, 0);
        OneFiddle none = chain();
        none.night(1);
        none.night(2);
        none.night(3);
        due("nothing to play", none.round(5), 0);
        row("back to 0 and there", none, 2, 1, 0, 0, 0);
        OneFiddle like = with("v0;v0;v0;rab9;rac9;rbc9", "c0-9$0*1;b0-9$0*1");
        like.round(4);
        row("as late as it can be", like, 0, 0, 1, 2);
        OneFiddle last = with("v0;v0;rab20", "b0-9$0*1");
        last.set(1, 3);
        last.round(10);
        row("the last night is moonless", last, 0, 0, 0, 0, 0, 0, 0, 0, 1, 1);
    }

    @Says("in the next n NIGHTS (0 .. 10)")
    private static void p20FromNightOn() {
        int[] want = {0, 1, 1, 0};
        for (int night = 0; night < want.length; night++) {
            OneFiddle x = with("v0;v0;rab20", "b0-9$0*1");
            x.stay(night);
            x.set(1, 3);
            due("MOON 3, one from NIGHT " + night, x.round(1), want[night]);
        }
        OneFiddle x = with("v0;v0;v0;rab20;rbc20", "c3-4$0*1");
        x.stay(1);
        x.set(1, 4);
        due("he has to go in nights 1 .. 3", x.round(3), 1);
        row("moonless in 4", x, 0, 1, 2);
        due("not in two", x.round(2), 0);
        x.set(2, 3);
        x.set(3, 3);
        due("LENT in 3", x.round(3), 0);
        due("LENT in 3, four", x.round(4), 1);
        row("LENT in 3, he is there by then", x, 0, 1, 2, 2);
    }

    @Says("The most FEASTS that he can play in the next n NIGHTS (0 .. 10): how many;")
    private static void p20BehindOtherRounds() {
        OneFiddle x = ordinary();
        for (int k = 0; k < 3; k++) {
            due("all of none", x.all(0), 0);
            due("round behind it", x.round(1), 1);
            row("round behind it", x, 1);
            due("all of none", x.all(0), 0);
            due("richest behind it", x.richest(1), 9);
            due("all of one", x.all(2), 2);
            due("round behind it", x.round(0), 0);
            due("second behind it", x.second(2, 2), 0);
            due("clash behind it", x.clash(), 6);
        }
    }

    @Says("NONE: another n, no VILLAGES.")
    private static void p20AnotherN() {
        for (int n : NOT_0_TO_10) {
            Twins.refuses("round(" + n + ")", -1, x -> x.round(n));
        }
        for (int n : new int[] {0, 1, 10}) {
            due("no VILLAGES", new OneFiddle().round(n), -1);
        }
    }

    // ---- 21

    @Says("The most BIDS that he can have in the next n NIGHTS (0 .. 10): how much;")
    private static void p21TheMostBids() {
        OneFiddle x = ordinary();
        int[] want = {0, 9, 29, 33, 33, 33, 33, 33, 33, 33, 33};
        for (int n = 0; n <= 10; n++) {
            due("richest(" + n + ")", x.richest(n), want[n]);
        }
        OneFiddle late = with("v0", "a0-0$1*1;a9-9$20*1;a10-10$40*1");
        due("the tenth night not in 9", late.richest(9), 1);
        due("the tenth night", late.richest(10), 21);
        late.stay(1);
        due("what was played is left aside, the eleventh night", late.richest(10), 60);
        OneFiddle few = with("v0;v0;v0;rab1;rac1;rbc1", "b0-0$99*1;c0-0$49*1;c0-0$49*1");
        due("however few", few.richest(1), 99);
        OneFiddle eight = with("v0", "a0-0$99*1;a0-0$99*1;a0-0$99*1;a0-0$99*1;a0-0$99*1;a0-0$99*1");
        feasts(eight, "a0-0$99*1;a0-0$99*1");
        due("eight of 99", eight.richest(1), 792);
    }

    @Says("the ROW: likewise.")
    private static void p21TheLeastRow() {
        OneFiddle x = ordinary();
        x.richest(0);
        row("0", x);
        x.richest(2);
        row("2", x, 1, 2);
        x.richest(10);
        row("10", x, 0, 0, 1, 2, 1, 0, 0, 0, 0, 0);
        OneFiddle free = with("v0;v0;rab1", "b0-9$0*1;b9-9$0*1");
        free.night(1);
        due("BIDS of 0", free.richest(3), 0);
        row("BIDS of 0 are no reason to go", free, 0, 0, 0);
        OneFiddle like = with("v0;v0;v0;rab9;rac9;rbc9", "c0-0$7*1;b0-0$7*1");
        like.richest(1);
        row("of as rich ones", like, 1);
    }

    @Says("NONE: likewise.")
    private static void p21AnotherN() {
        for (int n : NOT_0_TO_10) {
            Twins.refuses("richest(" + n + ")", -1, x -> x.richest(n));
        }
        for (int n : new int[] {0, 1, 10}) {
            due("no VILLAGES", new OneFiddle().richest(n), -1);
        }
    }

    // ---- 22

    @Says("The fewest NIGHTS (10 at most) in which he plays all FEASTS told as bits: how many")
    private static void p22FewestNights() {
        OneFiddle x = ordinary();
        int[] those = {1, 2, 4, 8, 3, 9, 10, 11, 12};
        int[] want = {1, 2, 3, 3, 2, 3, 3, 3, 4};
        for (int k = 0; k < those.length; k++) {
            due("all(" + those[k] + ")", x.all(those[k]), want[k]);
        }
        OneFiddle late = with("v0", "a8-8$0*1;a9-9$0*1;a0-20$0*1");
        due("the ninth night", late.all(1), 9);
        due("the tenth night", late.all(2), 10);
        due("all three", late.all(7), 10);
        due("the first night", late.all(4), 1);
    }

    @Says("(0: all of them were played, or none is told);")
    private static void p22NoneIsLeft() {
        OneFiddle x = ordinary();
        x.far(0, 1);
        due("none is told", x.all(0), 0);
        row("none is told", x);
        x.night(1);
        due("it was played", x.all(1), 0);
        row("it was played", x);
        due("one was, one not", x.all(3), 1);
        row("one was, one not", x, 2);
        due("no FEASTS", with("v0", "").all(0), 0);
    }

    @Says("the ROW: likewise.")
    private static void p22TheLeastRow() {
        OneFiddle x = ordinary();
        x.all(11);
        row("three", x, 1, 2, 1);
        x.all(8);
        row("one, the least row", x, 0, 0, 1);
        OneFiddle y = with("v0;v0;v0;rab9;rac9;rbc9", "c0-9$0*1;b0-9$0*1");
        y.all(3);
        row("of as few the least row", y, 1, 2);
        OneFiddle ten = with("v0;v0;rab20", "b9-9$0*1");
        ten.all(1);
        row("ten", ten, 0, 0, 0, 0, 0, 0, 0, 0, 0, 1);
    }

    @Says("-2: it can't be in 10;")
    private static void p22NotIn10() {
        OneFiddle x = ordinary();
        due("not both", x.all(6), -2);
        due("not all", x.all(15), -2);
        OneFiddle late = with("v0", "a10-10$0*1;a9-9$0*1");
        due("the eleventh night", late.all(1), -2);
        due("one of both", late.all(3), -2);
        late.stay(1);
        due("the eleventh night from night 1", late.all(1), 10);
        Twins.refuses("one that is over", -2, y -> y.all(4));
    }

    @Says("NONE: bits of none such, no VILLAGES.")
    private static void p22BitsOfNoneSuch() {
        for (int those : new int[] {64, 65, 127, 128, 255, 256, -1, MAX_VALUE, MIN_VALUE}) {
            Twins.refuses("all(" + those + ")", -1, x -> x.all(those));
        }
        OneFiddle eight = with("v0", "a0-0$0*1;a0-0$0*1;a0-0$0*1;a0-0$0*1;a0-0$0*1;a0-0$0*1;a0-0$0*1;a0-0$0*1");
        due("all eight", eight.all(255), 1);
        due("the ninth", eight.all(256), -1);
        due("no FEASTS", with("v0", "").all(1), -1);
        due("no VILLAGES", new OneFiddle().all(0), -1);
        due("no VILLAGES, bits", new OneFiddle().all(1), -1);
    }

    // ---- 23

    @Says("The smallest set of FEASTS that are not played (bits; of as small ones the least) that he can't play all in 10 NIGHTS: it;")
    private static void p23TheSmallestSet() {
        due("one before two", with("v0;v0;rab1", "b0-0$0*1;a0-0$0*1;a50-50$0*1").clash(), 4);
        due("two of three", ordinary().clash(), 6);
        due("of two sets of one the least", with("v0;v0", "b0-0$0*1;a0-0$0*1;b0-0$0*1").clash(), 1);
        OneFiddle pairs = with("v0;v0;v0;rab1;rac1", "a0-0$0*1;a1-1$0*1;b0-0$0*1;c1-1$0*1");
        due("of two pairs the least", pairs.clash(), 5);
        OneFiddle three = with("v0;v0;v0;rab1;rac1;rbc1", "c0-1$0*1;b0-1$0*1;a0-1$0*1;a0-9$0*1");
        due("three", three.clash(), 7);
        OneFiddle late = with("v0", "a9-9$0*1;a10-10$0*1");
        due("the tenth night can be, the eleventh not", late.clash(), 2);
    }

    @Says("that are not played (bits;")
    private static void p23PlayedOnesAreLeftAside() {
        OneFiddle x = with("v0;v0;rab1", "b0-0$0*1;a0-0$0*1;a5-5$0*1");
        due("both of night 0", x.clash(), 3);
        x.stay(1);
        due("the one that was not played is over", x.clash(), 1);
        x.undo();
        x.night(1);
        due("the other one is over", x.clash(), 2);
    }

    @Says("the ROW: how many they are.")
    private static void p23HowMany() {
        OneFiddle x = ordinary();
        x.clash();
        row("two", x, 2);
        OneFiddle one = with("v0;v0", "b0-0$0*1");
        one.far(0, 0);
        one.clash();
        row("one", one, 1);
        OneFiddle three = with("v0;v0;v0;rab1;rac1;rbc1", "c0-1$0*1;b0-1$0*1;a0-1$0*1");
        three.clash();
        row("three", three, 3);
        OneFiddle eight = with("v0;v0;v0;v0;v0;v0;v0;v0;v0", "");
        hills(eight, "rab1;rac1;rad1;rae1;raf1;rag1;rah1");
        feasts(eight, "a0-6$0*1;b0-6$0*1;c0-6$0*1;d0-6$0*1;e0-6$0*1;f0-6$0*1;g0-6$0*1;h0-6$0*1");
        due("all eight in seven nights", eight.clash(), 255);
        row("eight", eight, 8);
    }

    @Says("-2: he can play all.")
    private static void p23HeCanPlayAll() {
        OneFiddle x = ordinary();
        x.clash();
        x.set(0, 25);
        due("REACH 25", x.clash(), -2);
        row("the ROW stays", x, 2);
        due("no FEASTS", with("v0", "").clash(), -2);
        OneFiddle all = with("v0", "a0-0$0*1;a0-0$0*1");
        all.stay(1);
        due("all were played", all.clash(), -2);
    }

    @Says("NONE: no VILLAGES.")
    private static void p23NoVillages() {
        due("no VILLAGES", new OneFiddle().clash(), -1);
    }

    // ---- 24

    @Says("What a FEAST is worth to him: richest() of n NIGHTS (0 .. 10) less that without it: how much.")
    private static void p24HowMuch() {
        OneFiddle x = ordinary();
        int[][] want = {{0, 9, 9, 9}, {0, 0, 20, 17}, {0, 0, 0, 0}, {0, 0, 0, 4}};
        for (int feast = 0; feast < 4; feast++) {
            for (int n = 0; n < 4; n++) {
                due("worth(" + feast + ", " + n + ")", x.worth(feast, n), want[feast][n]);
            }
        }
        due("worth(3, 10)", x.worth(3, 10), 4);
        OneFiddle other = with("v0;v0;v0;rab1;rac1", "b0-0$30*1;c0-0$21*1");
        due("30 for 21", other.worth(0, 1), 9);
        due("nothing for it", other.worth(1, 1), 0);
        other.stay(1);
        due("it is over", other.worth(0, 10), 0);
        OneFiddle late = with("v0", "a9-9$5*1;a10-10$6*1");
        due("the tenth night", late.worth(0, 10), 5);
        due("the tenth night, of 9", late.worth(0, 9), 0);
        due("the eleventh night", late.worth(1, 10), 0);
        OneFiddle row = ordinary();
        row.far(0, 1);
        row.worth(1, 3);
        row("it tells no ROW", row, 0, 1);
    }

    @Says("-2: it was played;")
    private static void p24ItWasPlayed() {
        Twins.refuses("worth(0, 0)", -2, x -> x.worth(0, 0));
        Twins.refuses("worth(1, 10)", -2, x -> x.worth(1, 10));
        OneFiddle x = with("v0", "a0-0$5*1");
        due("not yet", x.worth(0, 1), 5);
        x.stay(1);
        due("played", x.worth(0, 1), -2);
    }

    @Says("NONE: others.")
    private static void p24Others() {
        for (int feast : new int[] {6, 8, 31, 32, -1, MAX_VALUE, MIN_VALUE}) {
            Twins.refuses("worth(" + feast + ", 3)", -1, x -> x.worth(feast, 3));
        }
        for (int n : NOT_0_TO_10) {
            Twins.refuses("worth(4, " + n + ")", -1, x -> x.worth(4, n));
            Twins.refuses("of one that was played, worth(0, " + n + ")", -1, x -> x.worth(0, n));
        }
        due("no FEASTS", with("v0", "").worth(0, 1), -1);
        due("no VILLAGES", new OneFiddle().worth(0, 1), -1);
    }

    // ---- 25

    @Says("The FEAST by which richest() of n NIGHTS (0 .. 10) gains the most, if its last night were one more")
    private static void p25GainsTheMost() {
        OneFiddle x = ordinary();
        due("longer(4)", x.longer(4), 2);
        row("longer(4)", x, 7);
        OneFiddle y = with("v0;v0;v0;rab1;rac1", "b0-0$5*1;c0-0$6*1;a0-0$4*1");
        due("of two nights", y.longer(2), 0);
        row("of two nights: c, then b", y, 5);
        OneFiddle late = with("v0;v0;rab1", "a8-8$9*1;b8-8$7*1;a9-9$1*1");
        due("the tenth night", late.longer(10), 0);
        row("the tenth night: 7, then 9 and 1, for 9, then 1", late, 7);
        due("not in nine", late.longer(9), -2);
        OneFiddle over = with("v0;v0;rab1", "b0-0$5*1;b0-0$6*1;b1-1$0*1");
        over.stay(1);
        due("one that is over", over.longer(1), 1);
        row("one that is over", over, 6);
        over.stay(1);
        due("over for two nights", over.longer(10), -2);
    }

    @Says("(99 at most):")
    private static void p25NightsUpTo99() {
        OneFiddle x = with("v0;v0;rab1", "b98-98$5*1;a98-98$4*1");
        x.stay(60);
        x.stay(38);
        due("98 to 99", x.longer(2), 0);
        row("98 to 99", x, 4);
        OneFiddle y = with("v0;v0;rab1", "b99-99$5*1;a99-99$4*1");
        y.stay(60);
        y.stay(39);
        due("99 stays", y.longer(2), -2);
        y.stay(1);
        due("99 stays in night 100", y.longer(2), -2);
    }

    @Says("of equal ones the first: it;")
    private static void p25TheFirstOfEqualOnes() {
        OneFiddle x = with("v0;v0;v0;rab1;rac1;rbc1", "c0-0$5*1;b0-0$5*1;a0-0$5*1");
        due("the first", x.longer(2), 0);
        OneFiddle y = with("v0;v0;rab1", "b0-0$3*1;a0-0$5*1;b0-0$2*1");
        due("5 against 3 and 2 together", y.longer(2), 1);
        row("5 against 3 and 2 together", y, 5);
        OneFiddle z = with("v0;v0;rab1", "b0-0$3*1;a0-0$6*1;b0-0$3*1;b0-0$3*1");
        due("a larger one behind", z.longer(2), 1);
        row("a larger one behind", z, 6);
    }

    @Says("the ROW: by how much.")
    private static void p25ByHowMuch() {
        OneFiddle x = with("v0;v0;rab1", "b0-0$99*1;a0-0$1*1");
        due("the rich one in night 1", x.longer(2), 0);
        row("by 1", x, 1);
    }

    @Says("-2: by none it gains;")
    private static void p25NoneGains() {
        OneFiddle x = ordinary();
        x.far(0, 1);
        due("no NIGHTS", x.longer(0), -2);
        due("longer(3)", x.longer(3), -2);
        row("the ROW stays", x, 0, 1);
        due("no FEASTS", with("v0", "").longer(10), -2);
        OneFiddle free = with("v0;v0;rab1", "b0-0$0*1;a0-0$0*1");
        due("BIDS of 0", free.longer(5), -2);
        OneFiddle lent = with("v0;v0;rab1", "b0-0$5*1;a0-0$5*1");
        due("a night more", lent.longer(2), 0);
        lent.set(2, 1);
        lent.set(3, 1);
        due("it is LENT", lent.longer(2), -2);
        OneFiddle played = with("v0", "a0-0$5*1");
        played.stay(1);
        due("it was played", played.longer(5), -2);
    }

    @Says("NONE: another n, no VILLAGES.")
    private static void p25AnotherN() {
        for (int n : NOT_0_TO_10) {
            Twins.refuses("longer(" + n + ")", -1, x -> x.longer(n));
        }
        due("no VILLAGES", new OneFiddle().longer(0), -1);
    }

    // ---- 26

    @Says("A boy who goes along learns by nine TUNES: by the row of round() for n NIGHTS (0 .. 10) how many TUNES are played: how many;")
    private static void p26HowManyTunes() {
        OneFiddle x = ordinary();
        int[] want = {0, 5, 14, 22, 22, 22, 22, 22, 22, 22, 22};
        for (int n = 0; n <= 10; n++) {
            due("learns(" + n + ")", x.learns(n), want[n]);
        }
        OneFiddle row = with("v0;v0;v0;rab1;rac1", "c0-0$0*9;b0-0$0*2");
        due("by the least row", row.learns(1), 2);
        OneFiddle most = with("v0;v0;v0;rab1;rac1", "c0-0$99*9;b0-0$0*1;b0-0$0*1");
        due("by round(), not by TUNES or BIDS", most.learns(1), 2);
        OneFiddle eight = with("v0", "a0-0$0*9;a0-0$0*9;a0-0$0*9;a0-0$0*9;a0-0$0*9;a0-0$0*9;a0-0$0*9;a9-9$0*9");
        due("ten nights", eight.learns(10), 72);
        due("nine nights", eight.learns(9), 63);
        eight.stay(1);
        due("what was played is left aside", eight.learns(10), 9);
    }

    @Says("the ROW: behind how many NIGHTS of it 9 or more were (NONE),")
    private static void p26NineOrMore() {
        OneFiddle x = ordinary();
        x.learns(0);
        row("none", x, -1, 0);
        x.learns(1);
        row("5", x, -1, 1);
        x.learns(2);
        row("14", x, 2, 2);
        OneFiddle nine = with("v0", "a0-0$0*8;a2-2$0*1;a4-4$0*9");
        nine.learns(2);
        row("8", nine, -1, 1);
        nine.learns(3);
        row("8 and 1", nine, 3, 2);
        nine.learns(10);
        row("9 are enough", nine, 3, 3);
        OneFiddle at = with("v0", "a0-0$0*9");
        at.learns(1);
        row("9 in the first night", at, 1, 1);
        OneFiddle last = with("v0", "a9-9$0*9");
        last.learns(10);
        row("9 in the tenth night", last, 10, 1);
    }

    @Says("how many of the NIGHTS play something.")
    private static void p26NightsThatPlay() {
        OneFiddle x = with("v0", "a0-0$0*1;a0-0$0*1;a3-3$0*1;a9-9$0*1;a9-9$0*1");
        int[] want = {0, 1, 1, 1, 2, 2, 2, 2, 2, 2, 3};
        for (int n = 0; n <= 10; n++) {
            x.learns(n);
            row("learns(" + n + ")", x, -1, want[n]);
        }
    }

    @Says("NONE: another n, no VILLAGES.")
    private static void p26AnotherN() {
        for (int n : NOT_0_TO_10) {
            Twins.refuses("learns(" + n + ")", -1, x -> x.learns(n));
        }
        due("no VILLAGES", new OneFiddle().learns(0), -1);
    }

    // ---- 27

    @Says("A second fiddler begins at a VILLAGE in NIGHT and walks as he does;")
    private static void p27BeginsAtAVillage() {
        OneFiddle x = with("v0;v0;v0;v0;rbc20;rcd20", "d1-1$9*1;d2-2$8*1");
        due("from d", x.second(3, 3), 4 + 4);
        due("from c", x.second(2, 3), 4 + 4);
        due("from b", x.second(1, 3), 4 + 4);
        due("from b, two nights", x.second(1, 2), 4);
        due("from a", x.second(0, 3), 0);
        x.set(0, 19);
        due("REACH 19 from c", x.second(2, 3), 0);
        due("REACH 19 from d", x.second(3, 3), 8);
        x.set(0, 20);
        x.set(1, 1);
        due("moonless nights from c", x.second(2, 3), 0);
        x.set(1, 2);
        due("night 1 has a moon", x.second(2, 3), 8);
        due("night 2 has none", x.second(1, 3), 0);
        x.set(1, 0);
        x.stay(1);
        due("from NIGHT on", x.second(2, 1), 4);
        x.stay(1);
        due("in night 2", x.second(3, 1), 4);
        x.set(2, 2);
        x.set(3, 2);
        due("LENT", x.second(3, 1), 0);
    }

    @Says("both play in the next n NIGHTS (0 .. 6), first he by richest() (the least row),")
    private static void p27FirstHe() {
        OneFiddle x = with("v0;v0;v0;rab1;rac1;rbc1", "b0-0$8*1;c0-0$8*1;c0-0$0*1");
        due("he has b, the least row", x.second(2, 1), 4);
        due("he has b, the second at b", x.second(1, 1), 4);
        OneFiddle six = with("v0;v0", "b5-5$9*1;b6-6$9*1;b4-4$3*1");
        int[] want = {0, 0, 0, 0, 0, 1, 5};
        for (int n = 0; n <= 6; n++) {
            due("second(1, " + n + ")", six.second(1, n), want[n]);
        }
        OneFiddle his = with("v0;v0;rab1", "a5-5$9*1;b5-5$3*1");
        due("what he plays later is his", his.second(0, 6), 1);
        due("he has not come to it", his.second(0, 5), 0);
    }

    @Says("then the second what is left (by BIDS halved, cut, each): what the second has at the most.")
    private static void p27WhatIsLeft() {
        OneFiddle x = with("v0;v0", "b0-0$9*1;b0-0$7*1;b1-1$5*1;b1-1$1*1;b2-2$0*1");
        due("each is halved and cut", x.second(1, 3), 4 + 3 + 2);
        due("he has all at a", with("v0", "a0-0$9*1").second(0, 1), 0);
        OneFiddle most = with("v0;v0;v0;v0;rcd1;rbd1", "b0-0$9*1;c0-0$8*1;d1-1$99*1");
        due("the most of one way", most.second(3, 1), 4);
        due("by a row of two", most.second(3, 2), 4 + 49);
        OneFiddle cut = with("v0;v0;v0;v0;rcd1;rbd1", "b0-0$3*1;b0-0$3*1;c0-0$5*1");
        due("1 and 1 or 2", cut.second(3, 1), 2);
        cut.sheet(2, 3, 3, 0);
        due("1 and 1 or 1", cut.second(3, 1), 2);
        x.far(0, 0);
        x.second(1, 3);
        row("it tells no ROW", x, 0);
        x.second(0, 0);
        OneFiddle played = with("v0;v0;rab1", "b0-9$8*1");
        played.night(1);
        played.night(0);
        due("what was played is not left", played.second(1, 3), 0);
    }

    @Says("NONE: others, no VILLAGES.")
    private static void p27Others() {
        for (int n : new int[] {7, 10, -1, MAX_VALUE, MIN_VALUE}) {
            Twins.refuses("second(0, " + n + ")", -1, x -> x.second(0, n));
        }
        for (int v : new int[] {4, 9, 31, 32, -1, MAX_VALUE, MIN_VALUE}) {
            Twins.refuses("second(" + v + ", 3)", -1, x -> x.second(v, 3));
        }
        due("no VILLAGES", new OneFiddle().second(0, 0), -1);
    }
}
