import static java.lang.Integer.MAX_VALUE;
import static java.lang.Integer.MIN_VALUE;

/** Each promise by calls whose answers were worked out by hand: ordinary ones, edges, wrong inputs. */
public final class PromisesTest {
    private static final String HILLS = "v3;v6;v0;rab10;rbc15;rac30";
    private static final String FEASTS = "b0-2$9*5;c1-3$20*9;a2-2$7*4;b2-5$4*8";

    public static void main(String[] args) {
        newObject();
        signAndEnd();
        hills();
        hillsThatFail();
        feasts();
        feastsThatFail();
        longTexts();
        ruleValues();
        ruleThatFails();
        village();
        feast();
        set();
        sheet();
        night();
        tiredNights();
        strings();
        stay();
        mend();
        move();
        season();
        seasonThatFails();
        undo();
        undoForgotten();
        far();
        reach();
        comes();
        round();
        richest();
        all();
        clash();
        worth();
        longer();
        learns();
        second();
        tune();
        hush();
        differ();
        whence();
        tree();
        got();
        breaks();
        bids();
        kinds();
        years();
        keepAndAgain();
        countAndRow();
        refusedCalls();
        Check.end("PromisesTest");
    }

    private static OneFiddle ordinary() {
        return Check.with(HILLS, FEASTS);
    }

    // 1
    private static void newObject() {
        OneFiddle x = new OneFiddle();
        int[] want = {0, 0, 0, 0, 0, 0, 0, 4, 0, 0, 0, 0, 0, 0, 0};
        for (int what = 0; what < want.length; what++) {
            Check.due("1 count(" + what + ")", x.count(what), want[what]);
        }
        Check.due("1 NONE", OneFiddle.NONE, -1);
        Check.due("1 REACH", x.set(0, 1), 20);
        Check.due("1 MOON", x.set(1, 1), 0);
        Check.due("1 LENT from", x.set(2, 1), 99);
        Check.due("1 LENT to", x.set(3, 1), 0);
        Check.throwsNone("1 village", () -> x.village(0, 0));
        Check.throwsNone("1 feast", () -> x.feast(0, 0));
        Check.throwsNone("1 row", () -> x.row(0));
    }

    // 2, 3
    private static void signAndEnd() {
        OneFiddle x = new OneFiddle();
        for (int k = 1; k <= 20; k++) {
            Check.due("2 sign", x.sign(0x76353b76), 4 * k);
        }
        Check.due("2 sign 81", x.sign(0), -1);
        Check.due("2 count", x.count(14), 80);
        Check.due("3 end(81)", x.end(81), false);
        Check.due("3 end(-1)", x.end(-1), false);
        Check.due("3 end(MIN)", x.end(MIN_VALUE), false);
        Check.due("3 count", x.count(14), 80);
        Check.due("3 end(80)", x.end(80), true);
        Check.due("3 end(77)", x.end(77), true);
        Check.due("3 count 77", x.count(14), 77);
        Check.due("3 end(78)", x.end(78), false);
        Check.due("2 sign of 77", x.sign(0), -1);
        Check.due("3 end(76)", x.end(76), true);
        Check.due("2 sign of 76", x.sign(0), 80);
        Check.due("3 end(2)", x.end(2), true);
        Check.due("3 hills", x.hills(), 1);
        Check.due("3 food", x.village(0, 0), 5);
        Check.due("3 end(0) of none", x.end(0), true);
        Check.due("3 end(1) of none", x.end(1), false);
        Check.due("2 highest byte first", x.sign(0x61626364), 4);
        Check.due("2 it is abcd", x.tune(0), 0);
        Check.due("2 abcd is at 0", Check.got(x, "abcd"), 1);
        Check.row("2 abcd", x, 0);
        x.sign(0xff626364);
        Check.due("2 a sign above 127", x.tune(0), -1);
        x.sign(0x616263e4);
        Check.due("2 a sign above 127 at the end", x.tune(0), -4);
    }

    // 4
    private static void hills() {
        OneFiddle x = new OneFiddle();
        Check.due("4 nothing", x.hills(), 0);
        Check.due("4 lines", Check.hills(x, HILLS), 6);
        Check.due("4 text is empty", x.count(14), 0);
        Check.due("4 villages", x.count(0), 3);
        Check.due("4 roads", x.count(1), 3);
        Check.due("4 more", Check.hills(x, "rca7;v9;rdc99;rdc98;rcd99"), 5);
        Check.due("4 villages then", x.count(0), 4);
        Check.due("4 roads then", x.count(1), 7);
        Check.due("4 the shorter one", x.far(0, 2), 7);
        Check.due("4 the shortest of three", x.far(2, 3), 98);
        Check.due("4 miles 05", Check.hills(x, "rab05"), 1);
        Check.due("4 far 05", x.far(1, 0), 5);
        Check.due("4 far by both", x.far(1, 2), 12);
        OneFiddle full = new OneFiddle();
        Check.due("4 nine", Check.hills(full, "v0;v1;v2;v3;v4;v5;v6;v7;v8"), 9);
        Check.due("4 ten", Check.hills(full, "v0"), -1);
        Check.due("4 road and ten", Check.hills(full, "rab1;v0"), -6);
        Check.due("4 no road of it", full.count(1), 0);
        for (int k = 0; k < 2; k++) {
            String twelve = "rab1;rac1;rad1;rae1;raf1;rag1;rah1;rai1;rbc1;rbd1;rbe1;rbf1";
            Check.due("4 twelve roads", Check.hills(full, twelve), 12);
        }
        Check.due("4 roads 24", full.count(1), 24);
        Check.due("4 road 25", Check.hills(full, "rab1"), -1);
        Check.due("4 road 25, ill", Check.hills(full, "r"), -1);
        Check.due("4 nothing at all", full.count(0), 9);
        Check.due("4 end behind ;", Check.hills(new OneFiddle(), "v0;v1;v2;v3;v4;v5;v6;v7;v8;"), -28);
    }

    private static void hillsThatFail() {
        String[] texts = {"x", ";", "v", "vx", "v55", "v5;", "v5;;", "r", "ra", "v5;ra", "v5;rb", "v5;raa", "v5;rab",
            "v5;rab7;v5", "v5;v5;rab", "v5;v5;rab;", "v5;v5;rab0", "v5;v5;rab00", "v5;v5;rab0;", "v5;v5;rab0x",
            "v5;v5;rab555", "v5;v5;rabx", "v5;v5;rjb5", "v5;v5;rAb5", "v5;v5;rbb5", "v5 ", "V5", "v-"};
        int[] places = {0, 0, 1, 1, 2, 3, 3, 1, 1, 5, 4, 5, 5,
            5, 9, 9, 9, 10, 9, 9,
            11, 9, 7, 7, 8, 2, 0, 1};
        for (int k = 0; k < texts.length; k++) {
            OneFiddle x = new OneFiddle();
            Check.due("4 '" + texts[k] + "'", Check.hills(x, texts[k]), -1 - places[k]);
            Check.due("4 '" + texts[k] + "' tells nothing", x.count(0) + x.count(1) + x.count(14), 0);
        }
    }

    // 5
    private static void feasts() {
        OneFiddle x = new OneFiddle();
        Check.due("5 no village", Check.feasts(x, "a0-0$0*1"), -1);
        Check.due("5 nothing", x.feasts(), 0);
        Check.hills(x, "v1;v2");
        Check.due("5 lines", Check.feasts(x, "b0-99$99*9;a07-7$05*1"), 2);
        int[] want = {1, 0, 99, 99, 9, 0, 0};
        int[] wantSecond = {0, 7, 7, 5, 1, 0, 0};
        for (int what = 0; what < 7; what++) {
            Check.due("5 feast 0, " + what, x.feast(0, what), want[what]);
            Check.due("5 feast 1, " + what, x.feast(1, what), wantSecond[what]);
        }
        Check.due("5 a later one is ill", Check.feasts(x, "a0-0$0*1;c0-0$0*1"), -10);
        Check.due("5 nothing of it", x.count(2), 2);
        Check.due("5 six", Check.feasts(x, "a0-0$0*1;a0-0$0*1;a0-0$0*1;a0-0$0*1;a0-0$0*1;a0-0$0*1"), 6);
        Check.due("5 eight", x.count(2), 8);
        Check.due("5 the ninth", Check.feasts(x, "a0-0$0*1"), -1);
        Check.due("5 the ninth, ill", Check.feasts(x, "zz"), -1);
        Check.due("5 text is empty", x.count(14), 0);
        OneFiddle y = Check.with("v1", "a0-0$0*1;a0-0$0*1;a0-0$0*1;a0-0$0*1;a0-0$0*1;a0-0$0*1;a0-0$0*1");
        Check.due("5 eighth and ninth", Check.feasts(y, "a0-0$0*1;a0-0$0*1"), -10);
        Check.due("5 not the eighth", y.count(2), 7);
    }

    private static void feastsThatFail() {
        String[] texts = {"x", "c0-0$0*1", "a", "ax", "a5", "a555-5", "a5x", "a5-", "a5-x", "a5-4", "a50-49$5*5",
            "a50-4", "a5-5", "a5-555", "a5-5x", "a5-5$", "a5-5$x", "a5-5$5", "a5-5$555*5", "a5-5$5*", "a5-5$5*0",
            "a5-5$5*x", "a5-5$5*55", "a5-5$5*5;", "a5-5$5*5;;", "a5-4;", "a10-9$1*1", "a5-05$1*1x"};
        int[] places = {0, 0, 1, 1, 2, 3, 2, 3, 3, 3, 5,
            4, 4, 5, 4, 5, 5, 6, 7, 7, 7,
            7, 8, 9, 9, 3, 4, 9};
        OneFiddle x = Check.with("v5;v5", "");
        for (int k = 0; k < texts.length; k++) {
            Check.due("5 '" + texts[k] + "'", Check.feasts(x, texts[k]), -1 - places[k]);
            Check.due("5 '" + texts[k] + "' tells nothing", x.count(2) + x.count(14), 0);
        }
    }

    private static void longTexts() {
        String roads = "rab1;".repeat(14);
        Check.due("4 75 signs", Check.hills(Check.with("v1;v1", ""), roads + "rab01"), 15);
        Check.due("4 74 signs", Check.hills(Check.with("v1;v1", ""), roads + "rab1"), 15);
        String full = "rab12;" + "rab1;".repeat(13) + "rab12";
        Check.due("4 its signs", full.length(), 76);
        Check.due("4 a full one", Check.hills(Check.with("v1;v1", ""), full), 15);
        OneFiddle w = Check.with("v1;v1", "");
        Check.due("4 77 signs, could go on", Check.hills(w, full + ";"), -77);
        Check.due("4 77 signs, could end", Check.hills(w, full + "1"), -77);
        Check.due("4 80 signs, ill behind", Check.hills(w, full + "xxxx"), -77);
        Check.due("4 80 signs, cut in a LINE", Check.hills(w, roads + "rab12;rab1"), -77);
        Check.due("4 80 signs, ill ahead", Check.hills(w, "rab0;" + "rab1;".repeat(15)), -4);
        Check.due("4 80 signs, ill at 75", Check.hills(w, "rab1;".repeat(15) + "x1234"), -76);
        Check.due("4 80 signs, ill at 76", Check.hills(w, "rab1;".repeat(15) + "rx123"), -77);
        Check.due("4 76 signs, too early", Check.hills(w, "rab1;".repeat(15) + "r"), -77);
        Check.due("4 nothing of these", w.count(1), 0);
        OneFiddle f = Check.with("v1", "");
        String seven = "a10-11$10*1;a10-11$10*1;a10-11$10*1;a10-11$10*1;a10-11$10*1;a10-11$10*1;";
        Check.due("5 72", seven.length(), 72);
        Check.due("5 77, could go on", Check.feasts(f, seven + "a1-11"), -77);
        Check.due("5 77, ill behind", Check.feasts(f, seven + "a1-1x"), -77);
        Check.due("5 78, less in the first 76", Check.feasts(f, seven + "a2-11$"), -76);
        Check.due("5 76 signs cut off", Check.feasts(f, seven + "a2-2"), -77);
        Check.due("5 nothing of these", f.count(2), 0);
        Check.due("6 40", Check.rule(f, "1+1+1+1+1+1+1+1+1+1+1+1+1+1+1+1+1+1+1+12"), 0);
        Check.due("6 41", Check.rule(f, "1+1+1+1+1+1+1+1+1+1+1+1+1+1+1+1+1+1+1+123"), -41);
        Check.due("6 41, ill there", Check.rule(f, "1+1+1+1+1+1+1+1+1+1+1+1+1+1+1+1+1+1+1+1+)"), -41);
        Check.due("6 40, too early", Check.rule(f, "1+1+1+1+1+1+1+1+1+1+1+1+1+1+1+1+1+1+1+1+"), -41);
        Check.due("6 39 and ill", Check.rule(f, "1+1+1+1+1+1+1+1+1+1+1+1+1+1+1+1+1+1+1+1)1"), -40);
        String sixty = "m;m;m;m;m;m;m;m;m;m;m;m;m;m;m;m;m;m;m;m;m;m;m;m;m;m;m;m;m;";
        Check.due("15 58", sixty.length(), 58);
        Check.due("15 60", Check.season(f, sixty + "z0"), 30);
        Check.due("15 61", Check.season(f, sixty + "z00"), -61);
        Check.due("15 61, ill", Check.season(f, sixty + "z0x"), -61);
        Check.due("15 60, too early", Check.season(f, sixty + "m;"), -61);
        Check.due("15 63", Check.season(f, sixty + "m;m;m"), -61);
        Check.due("15 59 and ill", Check.season(f, sixty + "mm1"), -60);
    }

    // 6
    private static void ruleValues() {
        // he walks 10, plays 5 tunes, in a village of FOOD 6, in night 0, TIRED 0, with 4 strings
        String[] texts = {"m", "t", "f", "d", "n", "s", "7", "099", "m+t*f", "(m+t)*3", "m-t-f", "m-(t-f)", "99/s",
            "m/0+3", "-5/2+10", "--5", "---5+9", "2*-3+9", "2--3", "m>t", "m<t", "m=t*2", "(m>t)*9", "1+1=2",
            "m>t+9", "0-7/2+9", "(((m)))", "((((m))))", "99-8/3*3", "8/(3*3)+1", "-(m)+20", "1<2+3", "(1<2)+3", "0=0", "24/2/3", "7-2+1"};
        int[] want = {10, 5, 6, 0, 0, 4, 7, 99, 40, 45, 0, 11, 24,
            3, 8, 5, 4, 3, 5, 1, 0, 1, 9, 1,
            0, 6, 10, 10, 93, 1,
            10, 1, 4, 1, 4, 6};
        for (int k = 0; k < texts.length; k++) {
            OneFiddle x = ordinary();
            Check.due("6 '" + texts[k] + "'", Check.rule(x, texts[k]), 0);
            Check.due("6 text is empty", x.count(14), 0);
            x.night(1);
            Check.due("6 '" + texts[k] + "' makes", x.count(5), want[k]);
        }
        OneFiddle x = ordinary();
        Check.rule(x, "n*10+d+s");
        x.night(1);
        Check.due("6 n, d, s", x.count(5), 4);
        x.night(0);
        Check.due("6 n, d, s then", x.count(5), 4 + 10 + 4 + 4);
        Check.rule(x, "");
        x.night(1);
        Check.due("6 an empty one is none", x.count(5), 22 + 10 / 2 + 8 - 6 / 3);
        OneFiddle wraps = ordinary();
        Check.rule(wraps, "999*999*999*3");
        wraps.night(1);
        Check.due("6 ints wrap", wraps.count(5), 999 * 999 * 999 * 3 < 0 ? 0 : 99);
        OneFiddle cut = ordinary();
        Check.rule(cut, "60-7/-2*10");
        cut.night(1);
        Check.due("6 cut to 0", cut.count(5), 90);
        OneFiddle ahead = ordinary();
        Check.rule(ahead, "99");
        ahead.night(1);
        Check.rule(ahead, "-d/2");
        ahead.night(0);
        Check.due("6 d is that ahead", ahead.count(5), 50);
    }

    private static void ruleThatFails() {
        String[] texts = {"+", "1+", "1++2", "(", "()", "(1", "1)", "((((1)))", "(((((1)))))", "1234", "12m", "m1", "mm",
            "x", "1<2<3", "1<2=3", "1=2+3>4", "(1<2)<3", "(1<2<3)", "1+x", "1 +2", "*2", "-", "1-", "2*/3", "1<", "<1",
            "5n", "mn", "1(", "(1)(2)", "((((1))))+(", "1<(2<3)<4", "(((1)+((2))", "m\u00002", "m\u0100".substring(0, 1) + "\u00ff"};
        int[] places = {0, 2, 2, 1, 1, 2, 1, 8, 4, 3, 2, 1, 1,
            0, 3, 3, 5, MAX_VALUE, 4, 2, 1, 0, 1, 2, 2, 2, 0,
            1, 1, 1, 3, 11, 7, 11, 1, 1};
        OneFiddle x = ordinary();
        Check.rule(x, "42");
        for (int k = 0; k < texts.length; k++) {
            int want = places[k] == MAX_VALUE ? 0 : -1 - places[k];
            Check.due("6 '" + texts[k] + "'", Check.rule(x, texts[k]), want);
            if (want == 0) {
                Check.rule(x, "42");
            }
        }
        x.night(1);
        Check.due("6 none of these stays", x.count(5), 42);
    }

    // 7
    private static void village() {
        OneFiddle x = ordinary();
        int[][] want = {{3, 4, 0, 0}, {6, 9, 1, 10}, {0, 2, 0, 25}};
        for (int v = 0; v < 3; v++) {
            for (int what = 0; what < 4; what++) {
                Check.due("7 village(" + v + ", " + what + ")", x.village(v, what), want[v][what]);
            }
        }
        x.night(1);
        Check.due("7 played", x.village(1, 2), 0);
        Check.due("7 still there", x.village(1, 1), 9);
        Check.due("7 night 1", x.village(2, 2), 2);
        Check.due("7 from where he is", x.village(2, 3), 15);
        Check.hills(x, "v8");
        Check.due("7 no way", x.village(3, 3), -1);
        Check.due("7 food", x.village(3, 0), 8);
        x.set(2, 0);
        x.set(3, 9);
        Check.due("7 LENT aside", x.village(2, 2), 2);
        Check.throwsNone("7 none such", () -> x.village(4, 0));
        Check.throwsNone("7 below", () -> x.village(-1, 0));
        Check.throwsNone("7 far below", () -> x.village(MIN_VALUE, 3));
        Check.throwsNone("7 what 4", () -> x.village(0, 4));
        Check.throwsNone("7 what -1", () -> x.village(0, -1));
    }

    // 8
    private static void feast() {
        OneFiddle x = ordinary();
        int[] want = {2, 1, 3, 20, 9, 0, 0};
        for (int what = 0; what < 7; what++) {
            Check.due("8 feast(1, " + what + ")", x.feast(1, what), want[what]);
        }
        x.night(1);
        Check.due("8 played", x.feast(0, 5), 1);
        Check.due("8 not over in its last night", x.feast(2, 6), 0);
        x.stay(2);
        Check.due("8 over", x.feast(2, 6), 1);
        Check.due("8 not over yet", x.feast(1, 6), 0);
        Check.due("8 what was played is not over", x.feast(0, 6), 0);
        Check.throwsNone("8 none such", () -> x.feast(4, 0));
        Check.throwsNone("8 below", () -> x.feast(-1, 0));
        Check.throwsNone("8 what 7", () -> x.feast(0, 7));
        Check.throwsNone("8 what -1", () -> x.feast(0, -1));
    }

    // 9
    private static void set() {
        OneFiddle x = ordinary();
        int[][] well = {{0, 1, 20}, {0, 99, 1}, {0, 30, 99}, {1, 30, 0}, {1, 0, 30}, {1, 3, 0}, {2, 0, 99}, {2, 5, 0},
            {3, 99, 0}, {3, 0, 99}, {3, 7, 0}, {2, 99, 5}};
        for (int[] call : well) {
            Check.due("9 set(" + call[0] + ", " + call[1] + ")", x.set(call[0], call[1]), call[2]);
        }
        int[][] ill = {{0, 0}, {0, 100}, {0, -1}, {1, -1}, {1, 31}, {2, -1}, {2, 100}, {3, -1}, {3, 100}, {4, 1}, {-1, 1}};
        for (int[] call : ill) {
            Check.due("9 set(" + call[0] + ", " + call[1] + ") refused", x.set(call[0], call[1]), -1);
        }
        Check.due("9 REACH stays", x.set(0, 30), 30);
        Check.due("9 MOON stays", x.set(1, 3), 3);
        Check.due("9 LENT stays", x.set(2, 99), 99);
        Check.due("9 its end stays", x.set(3, 7), 7);
        Check.due("9 LENT none", x.kinds(99), 33);
        Check.row("9 LENT none", x, 0, 0);
        x.set(2, 7);
        x.kinds(99);
        Check.row("9 LENT of a night", x, 1, 0);
    }

    // 10
    private static void sheet() {
        OneFiddle x = ordinary();
        Check.due("10 ints", x.sheet(2, 2, 5, 200), 104);
        Check.due("10 put to 99", x.feast(1, 3), 99);
        Check.due("10 behind", x.feast(2, 3) + x.feast(3, 3), 0);
        Check.due("10 n below 0", x.sheet(2, -1, 5, 5), -2);
        Check.due("10 changes nothing", x.feast(0, 3) + x.feast(1, 3), 104);
        Check.due("10 n 9", x.sheet(0, 9, 5, 5), -1);
        Check.due("10 n 9 of the missing", x.sheet(3, 9, 5, 5), -1);
        Check.due("10 another kind", x.sheet(4, 2, 5, 5), -1);
        Check.due("10 another kind, n below 0", x.sheet(-1, -2, 5, 5), -1);
        Check.due("10 refused", x.feast(0, 3) + x.feast(1, 3), 104);
        Check.due("10 eight, four of them", x.sheet(2, 8, 1, 2), 1 + 3 + 5 + 7);
        Check.due("10 bytes", x.sheet(0, 4, 250, 4), 0 + 0 + 2 + 6);
        Check.due("10 the second", x.feast(1, 3), 0);
        Check.due("10 the last", x.feast(3, 3), 6);
        Check.due("10 bytes with their sign", x.sheet(0, 1, 200, 0), 0);
        Check.due("10 shorts", x.sheet(1, 3, 65530, 10), 0 + 4 + 14);
        Check.due("10 shorts with their sign", x.sheet(1, 1, 40000, 0), 0);
        Check.due("10 ints of 40000", x.sheet(2, 1, 40000, 0), 99);
        Check.due("10 ints wrap", x.sheet(2, 3, MAX_VALUE, 50), 99);
        Check.due("10 ints below", x.sheet(2, 3, 30, -20), 30 + 10);
        Check.due("10 none of the sheet", x.sheet(0, 0, 30, -20), 0);
        x.sheet(2, 4, 1, 1);
        Check.due("10 missing", x.sheet(3, 4, 5, 5), -3);
        Check.due("10 all 0", x.feast(0, 3) + x.feast(1, 3) + x.feast(2, 3) + x.feast(3, 3), 0);
        Check.due("10 missing, n below 0", x.sheet(3, -4, 5, 5), -3);
        Check.due("10 without feasts", new OneFiddle().sheet(2, 3, 1, 1), 0);
    }

    // 11
    private static void night() {
        OneFiddle x = ordinary();
        Check.due("11 too far", x.night(2), -2);
        Check.due("11 none such", x.night(3), -1);
        Check.due("11 below", x.night(-1), -1);
        Check.due("11 NIGHT stays", x.count(3) + x.count(12), 0);
        Check.due("11 one feast", x.night(1), 1);
        Check.row("11 one feast", x, 9, 10, 8);
        Check.due("11 NIGHT", x.count(3), 1);
        Check.due("11 where", x.count(4), 1);
        Check.due("11 played", x.count(9), 1);
        Check.due("11 nothing again", x.night(1), 0);
        Check.row("11 he sleeps", x, 0, 0, -4);
        Check.due("11 to be TIRED", x.count(5), 4);
        Check.due("11 two nights later", x.night(0), 1);
        Check.row("11 two nights later", x, 7, 10, 5 + 4 - 1);
        Check.hills(x, "v8");
        Check.due("11 no way", x.night(3), -2);
        OneFiddle two = Check.with("v0;v0;rab1", "b1-1$5*2;b0-3$6*3;b0-0$7*4;b2-3$8*5");
        Check.due("11 two together", two.night(1), 2);
        Check.row("11 two together", two, 13, 1, 7);
        Check.due("11 both", two.count(9), 6);
        Check.due("11 the first in its night", two.night(1), 1);
        Check.due("11 the first", two.count(9), 7);
        OneFiddle lent = ordinary();
        lent.set(2, 0);
        lent.set(3, 1);
        Check.due("11 LENT", lent.night(1), 0);
        Check.row("11 LENT", lent, 0, 10, 3);
        Check.due("11 LENT's last night", lent.night(1), 0);
        Check.due("11 behind LENT", lent.night(1), 2);
        OneFiddle moon = ordinary();
        moon.set(1, 2);
        moon.set(0, 19);
        Check.due("11 moonless night 0", moon.night(1), -2);
        Check.due("11 moonless, he stays", moon.night(0), 0);
        Check.due("11 night 1", moon.night(1), 1);
        Check.due("11 moonless night 2", moon.night(0), -2);
        moon.set(1, 1);
        moon.set(0, 20);
        Check.due("11 each night moonless, near", moon.night(0), 1);
        OneFiddle reach = ordinary();
        reach.set(0, 25);
        Check.due("11 over another village", reach.night(2), 0);
        Check.row("11 over another village", reach, 0, 25, 12);
    }

    private static void tiredNights() {
        OneFiddle x = Check.with("v0", "a1-1$9*1;a3-3$9*1;a5-5$0*1;a6-6$9*1");
        Check.rule(x, "49");
        x.stay(1);
        x.night(0);
        Check.row("11 at 0", x, 9, 0, 49);
        x.set(1, 0);
        Check.due("11 TIRED 49", x.count(5), 49);
        x.undo();
        Check.rule(x, "50");
        x.night(0);
        Check.due("11 TIRED 50", x.count(5), 50);
        x.stay(1);
        Check.due("11 halved", x.count(5), 25);
        Check.rule(x, "49-25");
        x.night(0);
        Check.row("11 TIRED 25 ahead: the whole BID", x, 9, 0, 24);
        x.stay(1);
        Check.due("11 halved and cut", x.count(5), 24);
        Check.rule(x, "50-24");
        x.night(0);
        Check.due("11 TIRED 50 again", x.count(5), 50);
        Check.rule(x, "999");
        x.night(0);
        Check.row("11 TIRED 50 ahead: half the BID, cut", x, 4, 0, 49);
        Check.due("11 99 at most", x.count(5), 99);
        OneFiddle two = Check.with("v0;v0;rab9", "b1-9$5*1;b1-9$5*1;b2-9$5*1");
        Check.rule(two, "50");
        two.night(1);
        two.night(1);
        Check.row("11 each halved for itself", two, 4, 0, 49);
        Check.rule(two, "-999");
        two.night(1);
        Check.row("11 halved, then less TIRED", two, 2, 0, -99);
        Check.due("11 0 at least", two.count(5), 0);
    }

    private static void strings() {
        OneFiddle x = Check.with("v9", "a0-0$0*9;a0-0$0*9;a1-1$0*1;a2-2$0*1;a3-3$1*9;a3-3$1*9;a3-3$1*3;a5-5$0*9");
        Check.rule(x, "s");
        x.night(0);
        Check.due("11 WORN 18", x.count(8), 18);
        x.night(0);
        Check.due("11 WORN 19", x.count(8) * 10 + x.count(7), 194);
        x.night(0);
        Check.due("11 WORN 20", x.count(8) * 10 + x.count(7), 203);
        Check.row("11 s is that ahead", x, 0, 0, 4);
        x.night(0);
        Check.due("11 WORN 41", x.count(8) * 10 + x.count(7), 412);
        OneFiddle y = Check.with("v9", "a0-9$0*9;a0-9$0*9;a0-9$0*9;a0-9$0*9;a0-9$0*9;a0-9$0*9;a0-9$0*9;a1-9$5*9");
        y.night(0);
        Check.due("11 WORN 63", y.count(8) * 10 + y.count(7), 631);
        y.night(0);
        Check.due("11 WORN 72", y.count(8) * 10 + y.count(7), 721);
        OneFiddle z = Check.with("v9", "a0-9$1*9;a0-9$1*9;a0-9$0*9;a0-9$0*9;a0-9$0*9;a0-9$0*9;a0-9$0*9;a0-9$5*9");
        z.night(0);
        Check.due("11 WORN 72 of eight", z.count(8) * 10 + z.count(7), 721);
    }

    /** An object whose fiddler has no STRINGS and few coins: feasts come again by again(). */
    private static OneFiddle withoutStrings() {
        OneFiddle x = Check.with("v9", "a0-0$0*9;a0-0$0*9;a0-0$0*9;a0-0$0*9;a0-0$0*9;a0-0$0*9;a0-0$0*9;a1-9$3*9");
        Check.rule(x, "0");
        x.night(0);
        Check.due("WORN 63", x.count(8) * 10 + x.count(7), 631);
        return x;
    }

    // 12
    private static void stay() {
        OneFiddle x = ordinary();
        Check.due("12 61", x.stay(61), -1);
        Check.due("12 -1", x.stay(-1), -1);
        Check.due("12 0", x.stay(0), 0);
        Check.row("12 0", x, 0, 0);
        Check.due("12 0 is not to be undone", x.count(12), 0);
        Check.due("12 3", x.stay(3), 1);
        Check.row("12 3", x, 7, 3);
        Check.due("12 3 as one", x.count(12), 1);
        Check.due("12 TIRED", x.count(5), 3);
        Check.due("12 60", x.stay(60), 0);
        Check.row("12 60", x, 0, 63);
        Check.due("12 slept", x.count(5), 0);
        OneFiddle none = new OneFiddle();
        Check.due("12 no VILLAGES", none.stay(0), -2);
        Check.due("12 no VILLAGES, asked first", none.stay(-9), -2);
    }

    // 13
    private static void mend() {
        OneFiddle x = withoutStrings();
        Check.due("13 PURSE 0", x.mend(), -2);
        Check.due("13 nothing changes", x.count(7) * 100 + x.count(6) * 10 + x.count(12), 101);
        x.night(0);
        Check.due("13 WORN 72", x.count(8) * 10 + x.count(7), 721);
        Check.due("13 PURSE 3", x.count(6), 3);
        Check.due("13 three", x.mend(), 3);
        Check.due("13 PURSE and STRINGS", x.count(6) * 10 + x.count(7), 4);
        Check.due("13 WORN stays", x.count(8), 72);
        Check.due("13 none is missing", x.mend(), 0);
        Check.due("13 both can be undone", x.count(12), 4);
        Check.due("13 on a new one", new OneFiddle().mend(), 0);
        OneFiddle rich = Check.with("v0", "a0-0$9*9;a0-0$0*9;a0-0$0*9");
        rich.night(0);
        Check.due("13 one", rich.mend(), 1);
        Check.due("13 PURSE 8", rich.count(6), 8);
    }

    // 14
    private static void move() {
        OneFiddle x = ordinary();
        Check.due("14 on", x.move(1, 9), 10);
        Check.due("14 to", x.feast(1, 2), 12);
        Check.due("14 back", x.move(1, -9), 1);
        Check.due("14 from below 0", x.move(1, -2), -3);
        Check.due("14 to 0", x.move(1, -1), 0);
        Check.due("14 by none", x.move(1, 0), 0);
        Check.due("14 by 10", x.move(1, 10), -1);
        Check.due("14 by -10", x.move(1, -10), -1);
        Check.due("14 none such", x.move(4, 1), -1);
        Check.due("14 below", x.move(-1, 1), -1);
        Check.due("14 four are kept", x.count(12), 4);
        x.night(1);
        Check.due("14 was played", x.move(0, 1), -2);
        OneFiddle late = Check.with("v0", "a90-95$1*1");
        Check.due("14 above 99", late.move(0, 5), -3);
        Check.due("14 as it was", late.feast(0, 1), 90);
        Check.due("14 to 99", late.move(0, 4), 94);
        Check.due("14 99", late.feast(0, 2), 99);
        Check.due("14 undone", late.undo(), 0);
        Check.due("14 undone to", late.feast(0, 2) * 100 + late.feast(0, 1), 9590);
    }

    // 15
    private static void season() {
        OneFiddle x = ordinary();
        Check.due("15 four of five", Check.season(x, "gb;gc;z1;m;ga"), 4);
        Check.row("15 four of five", x, 1, 2, 29);
        Check.due("15 as one", x.count(12), 1);
        Check.due("15 text is empty", x.count(14), 0);
        Check.due("15 all", Check.season(x, "gb;z1"), 2);
        Check.row("15 all", x, 0, 1, 4);
        Check.due("15 two seasons", x.count(12), 2);
        Check.due("15 none done", Check.season(x, "gi"), 0);
        Check.row("15 none done", x, 1, 0, 0);
        Check.due("15 61 nights", Check.season(x, "z61;z1"), 0);
        Check.row("15 61 nights", x, 1, 0, 0);
        Check.due("15 not to be undone", x.count(12), 2);
        Check.due("15 empty", x.season(), 0);
        Check.row("15 empty", x, 0, 0, 0);
        Check.due("15 nothing to undo of it", x.count(12), 2);
        Check.due("15 z0", Check.season(x, "z0"), 1);
        Check.due("15 z0 is done", x.count(12), 3);
        Check.due("15 60 and 60", Check.season(x, "z60;z60"), 2);
        Check.due("15 NIGHT", x.count(3), 5 + 120);
        Check.due("15 too far", Check.season(x, "gc;ga;m"), 1);
        Check.due("15 it stopped there", x.count(4), 2);
        x.undo();
        x.undo();
        Check.due("15 undone as one", x.count(3), 5);
        OneFiddle poor = withoutStrings();
        Check.due("15 can't mend", Check.season(poor, "m;z1"), 0);
        Check.row("15 can't mend", poor, 1, 0, 0);
        Check.due("15 mend in it", Check.season(poor, "z1;m;z1"), 3);
        Check.row("15 what FEASTS brought", poor, 0, 1, 3);
        Check.due("15 PURSE", poor.count(6) * 10 + poor.count(7), 4);
        OneFiddle none = new OneFiddle();
        Check.due("15 no VILLAGES", Check.season(none, "m;z0;m"), 1);
        Check.row("15 no VILLAGES", none, 1, 0, 0);
        Check.due("15 no VILLAGES, g", Check.season(none, "ga"), 0);
    }

    private static void seasonThatFails() {
        String[] texts = {"x", "g", "gj", "gA", "z", "zx", "z123", "m;", "mm", "m;;", "m1", "gab", ";", "gb;gc;x",
            "gb;gc;z1;m;ga;", "z1;h"};
        int[] places = {0, 1, 1, 1, 1, 1, 3, 2, 1, 2, 1, 2, 0, 6, 14, 3};
        OneFiddle x = ordinary();
        x.far(0, 2);
        for (int k = 0; k < texts.length; k++) {
            Check.due("15 '" + texts[k] + "'", Check.season(x, texts[k]), -1 - places[k]);
            Check.due("15 '" + texts[k] + "' does nothing", x.count(3) + x.count(12) + x.count(14), 0);
        }
        Check.row("15 the ROW stays", x, 0, 1, 2);
    }

    // 16
    private static void undo() {
        OneFiddle x = ordinary();
        Check.due("16 none", x.undo(), -1);
        String[] were = new String[20];
        for (int k = 0; k < 15; k++) {
            were[k] = fiddlerOf(x);
            if (k % 3 == 0) {
                x.night(1);
            } else if (k % 3 == 1) {
                x.move(2, 1);
            } else {
                x.stay(2);
            }
        }
        Check.due("16 twelve are kept", x.count(12), 12);
        x.set(0, 40);
        x.sheet(2, 4, 50, 1);
        for (int k = 14; k >= 3; k--) {
            Check.due("16 left", x.undo(), k - 3);
            Check.due("16 as ahead of " + k, fiddlerOf(x).equals(were[k]), true);
        }
        Check.due("16 no more", x.undo(), -1);
        Check.due("16 REACH stays", x.set(0, 20), 40);
        Check.due("16 BIDS stay", x.feast(0, 3), 50);
        Check.due("16 new ones", x.night(1) + x.undo(), 0);
        OneFiddle y = ordinary();
        for (int k = 0; k < 30; k++) {
            y.move(3, k % 2 == 0 ? 1 : -1);
        }
        y.undo();
        y.move(3, -2);
        Check.due("16 a round ring", y.undo(), 11);
        Check.due("16 from", y.feast(3, 1), 3);
        Check.due("16 ahead of it", y.undo(), 10);
        Check.due("16 from ahead of it", y.feast(3, 1), 2);
        OneFiddle refused = ordinary();
        refused.night(2);
        refused.stay(61);
        refused.stay(0);
        refused.move(0, 10);
        Check.season(refused, "gc");
        Check.season(refused, "g");
        Check.due("16 nothing was done", refused.count(12), 0);
    }

    private static String fiddlerOf(OneFiddle x) {
        StringBuilder told = new StringBuilder();
        for (int what = 3; what <= 9; what++) {
            told.append(x.count(what)).append(' ');
        }
        for (int k = 0; k < x.count(2); k++) {
            told.append(x.feast(k, 1)).append('-').append(x.feast(k, 2)).append(' ');
        }
        return told.toString();
    }

    private static void undoForgotten() {
        OneFiddle x = ordinary();
        x.night(1);
        x.hills();
        x.feasts();
        Check.due("16 empty ones forget nothing", x.count(12), 1);
        Check.hills(x, "x");
        Check.feasts(x, "x");
        x.again(0);
        Check.due("16 refused ones forget nothing", x.count(12), 1);
        Check.rule(x, "5");
        Check.due("16 nor does a rule", x.count(12), 1);
        Check.hills(x, "v1");
        Check.due("16 hills forget", x.count(12), 0);
        Check.due("16 nothing to undo", x.undo(), -1);
        x.night(1);
        Check.feasts(x, "a1-1$1*1");
        Check.due("16 feasts forget", x.count(12), 0);
        x.keep(1);
        x.night(1);
        Check.due("16 keep does not", x.count(12), 1);
        x.again(1);
        Check.due("16 again forgets", x.count(12), 0);
    }

    // 17
    private static void far() {
        OneFiddle x = ordinary();
        Check.due("17 far", x.far(0, 2), 25);
        Check.row("17 far", x, 0, 1, 2);
        Check.due("17 back", x.far(2, 0), 25);
        Check.row("17 back", x, 2, 1, 0);
        Check.due("17 the same", x.far(1, 1), 0);
        Check.row("17 the same", x, 1);
        Check.hills(x, "v1;v2;rde3");
        Check.due("17 no way", x.far(0, 3), -2);
        Check.due("17 none such", x.far(0, 5), -1);
        Check.due("17 none such, the first", x.far(5, 0), -1);
        Check.due("17 below", x.far(-1, 0), -1);
        Check.row("17 the ROW stays", x, 1);
        OneFiddle like = Check.with("v0;v0;v0;v0;rad4;rab2;rbd2;rac1;rcd3", "");
        Check.due("17 as short ones", like.far(0, 3), 4);
        Check.row("17 the least row", like, 0, 1, 3);
        Check.due("17 as short ones, back", like.far(3, 0), 4);
        Check.row("17 the least row, back", like, 3, 0);
        OneFiddle longest = Check.with("v0;v0;v0;v0;v0;v0;v0;v0;v0", "");
        Check.hills(longest, "rab99;rbc99;rcd99;rde99;ref99;rfg99;rgh99;rhi99");
        Check.due("17 the longest", longest.far(8, 0), 792);
        Check.row("17 the longest", longest, 8, 7, 6, 5, 4, 3, 2, 1, 0);
    }

    // 18
    private static void reach() {
        OneFiddle x = ordinary();
        Check.due("18 reach", x.reach(), 3);
        Check.row("18 reach", x, 20);
        x.set(0, 25);
        Check.due("18 25", x.reach(), 7);
        x.set(0, 24);
        Check.due("18 24", x.reach(), 3);
        x.set(1, 4);
        x.set(0, 21);
        Check.due("18 moonless", x.reach(), 3);
        Check.row("18 moonless, cut", x, 10);
        x.set(0, 19);
        Check.due("18 9 miles", x.reach(), 1);
        x.stay(1);
        Check.due("18 a night with a moon", x.reach(), 3);
        x.set(1, 1);
        x.set(0, 1);
        Check.due("18 none", x.reach(), 1);
        Check.row("18 none", x, 0);
        OneFiddle none = new OneFiddle();
        Check.due("18 no VILLAGES", none.reach(), 0);
        Check.row("18 no VILLAGES", none, 20);
    }

    // 19
    private static void comes() {
        OneFiddle x = ordinary();
        Check.due("19 two", x.comes(2), 2);
        Check.row("19 two", x, 1, 2);
        Check.due("19 here", x.comes(0), 0);
        Check.row("19 here", x);
        Check.due("19 none such", x.comes(3), -1);
        Check.due("19 below", x.comes(-1), -1);
        x.set(1, 2);
        Check.due("19 moonless ones", x.comes(2), 2);
        x.set(0, 19);
        Check.due("19 he waits", x.comes(2), 4);
        Check.row("19 he waits, the least row", x, 0, 1, 1, 2);
        x.set(1, 1);
        Check.due("19 never", x.comes(2), -2);
        Check.row("19 the ROW stays", x, 0, 1, 1, 2);
        Check.hills(x, "v5");
        Check.due("19 no way", x.comes(3), -2);
        OneFiddle like = Check.with("v0;v0;v0;v0;rad20;rac10;rcd20;rab20;rbd20", "");
        like.set(1, 0);
        like.set(0, 20);
        like.night(3);
        Check.due("19 one", like.comes(0), 1);
        like.set(1, 2);
        Check.due("19 from night 1", like.comes(0), 1);
        OneFiddle wait = Check.with("v0;v0;rab20", "");
        wait.set(1, 12);
        wait.stay(12);
        wait.set(0, 39);
        Check.due("19 a moonless night, then", wait.comes(1), 2);
        Check.row("19 a moonless night, then", wait, 0, 1);
        OneFiddle far = Check.with("v0;v0;v0;v0;v0;v0;v0;v0;v0", "");
        Check.hills(far, "rab20;rbc20;rcd20;rde20;ref20;rfg20;rgh20;rhi20");
        far.set(1, 3);
        Check.due("19 twelve", far.comes(8), 12);
        Check.row("19 the least row of twelve", far, 0, 1, 2, 2, 3, 4, 4, 5, 6, 6, 7, 8);
        far.set(1, 2);
        Check.due("19 not in 12", far.comes(8), -2);
        Check.due("19 in 12", far.comes(6), 12);
        Check.due("19 questions change nothing", far.count(3) + far.count(4), 0);
    }

    // 20
    private static void round() {
        OneFiddle x = ordinary();
        Check.due("20 three", x.round(3), 3);
        Check.row("20 three", x, 1, 2, 1);
        Check.due("20 none", x.round(0), 0);
        Check.row("20 none", x);
        Check.due("20 one", x.round(1), 1);
        Check.row("20 one", x, 1);
        Check.due("20 ten", x.round(10), 3);
        Check.row("20 ten", x, 0, 0, 1, 2, 1, 0, 0, 0, 0, 0);
        Check.due("20 11", x.round(11), -1);
        Check.due("20 -1", x.round(-1), -1);
        Check.due("20 no VILLAGES", new OneFiddle().round(1), -1);
        x.set(2, 0);
        x.set(3, 1);
        Check.due("20 LENT", x.round(3), 2);
        Check.row("20 LENT", x, 0, 0, 1);
        Check.due("20 in night 0", x.count(3), 0);
        x.stay(2);
        Check.due("20 from NIGHT on", x.round(1), 2);
        Check.row("20 from NIGHT on", x, 1);
        OneFiddle torn = withoutStrings();
        Check.rule(torn, "99");
        torn.set(1, 0);
        Check.due("20 what was played is not counted", torn.round(3), 1);
        Check.row("20 what was played is not counted", torn, 0, 0, 0);
    }

    // 21
    private static void richest() {
        OneFiddle x = ordinary();
        Check.due("21 three", x.richest(3), 33);
        Check.row("21 three", x, 1, 2, 1);
        Check.due("21 two", x.richest(2), 29);
        Check.row("21 two", x, 1, 2);
        Check.due("21 none", x.richest(0), 0);
        Check.row("21 none", x);
        Check.due("21 six", x.richest(6), 33);
        Check.row("21 six", x, 0, 0, 1, 2, 1, 0);
        Check.due("21 11", x.richest(11), -1);
        Check.due("21 -1", x.richest(-1), -1);
        Check.due("21 no VILLAGES", new OneFiddle().richest(1), -1);
        x.sheet(2, 4, 5, 0);
        Check.due("21 other BIDS", x.richest(3), 15);
        x.sheet(3, 0, 0, 0);
        Check.due("21 BIDS of 0", x.richest(2), 0);
        Check.row("21 BIDS of 0", x, 0, 0);
        OneFiddle tired = Check.with("v0;v0;rab1", "b0-9$3*9;b0-9$3*9;b0-9$3*9;b0-9$3*9;b0-9$3*9;b0-9$3*9;b1-9$9*1");
        Check.rule(tired, "99");
        tired.night(1);
        Check.due("21 full BIDS", tired.richest(1), 9);
    }

    // 22
    private static void all() {
        OneFiddle x = ordinary();
        Check.due("22 all three", x.all(11), 3);
        Check.row("22 all three", x, 1, 2, 1);
        Check.due("22 it can't be", x.all(7), -2);
        Check.row("22 the ROW stays", x, 1, 2, 1);
        Check.due("22 two", x.all(3), 2);
        Check.row("22 two", x, 1, 2);
        Check.due("22 one", x.all(4), 3);
        Check.row("22 one", x, 0, 0, 0);
        Check.due("22 none told", x.all(0), 0);
        Check.row("22 none told", x);
        Check.due("22 none such", x.all(16), -1);
        Check.due("22 none such, below", x.all(MIN_VALUE), -1);
        Check.due("22 all bits", x.all(-1), -1);
        Check.due("22 no VILLAGES", new OneFiddle().all(0), -1);
        x.night(1);
        Check.due("22 it was played", x.all(1), 0);
        Check.due("22 one more", x.all(3), 1);
        OneFiddle late = Check.with("v0", "a9-9$1*1;a10-10$1*1");
        Check.due("22 the tenth night", late.all(1), 10);
        Check.due("22 the eleventh", late.all(2), -2);
    }

    // 23
    private static void clash() {
        OneFiddle x = ordinary();
        Check.due("23 two", x.clash(), 6);
        Check.row("23 two", x, 2);
        x.set(0, 25);
        Check.due("23 all with 25", x.clash(), -2);
        Check.row("23 the ROW stays", x, 2);
        Check.due("23 no VILLAGES", new OneFiddle().clash(), -1);
        Check.due("23 no FEASTS", Check.with("v1", "").clash(), -2);
        OneFiddle over = Check.with("v0;v0;v0;rab9", "b0-0$0*1;a0-0$0*1;c0-50$0*1;b20-20$0*1");
        Check.due("23 a set of one", over.clash(), 4);
        Check.row("23 a set of one", over, 1);
        over.night(1);
        Check.due("23 one that is over", over.clash(), 2);
        OneFiddle three = Check.with("v0;v0;v0;rab9;rbc9;rac9", "a0-1$0*1;b0-1$0*1;c0-1$0*1;c5-5$0*1");
        Check.due("23 three", three.clash(), 7);
        Check.row("23 three", three, 3);
        three.night(2);
        Check.due("23 what was played is left aside", three.clash(), 3);
    }

    // 24
    private static void worth() {
        OneFiddle x = ordinary();
        x.far(0, 1);
        Check.due("24 worth(1, 3)", x.worth(1, 3), 17);
        Check.due("24 worth(2, 3)", x.worth(2, 3), 0);
        Check.due("24 worth(0, 1)", x.worth(0, 1), 9);
        Check.due("24 worth(0, 0)", x.worth(0, 0), 0);
        Check.row("24 no ROW", x, 0, 1);
        Check.due("24 none such", x.worth(4, 1), -1);
        Check.due("24 below", x.worth(-1, 1), -1);
        Check.due("24 11", x.worth(0, 11), -1);
        Check.due("24 -1", x.worth(0, -1), -1);
        x.night(1);
        Check.due("24 was played", x.worth(0, 3), -2);
        Check.due("24 worth(1, 1)", x.worth(1, 1), 20);
        Check.due("24 no VILLAGES", new OneFiddle().worth(0, 1), -1);
    }

    // 25
    private static void longer() {
        OneFiddle x = ordinary();
        Check.due("25 none", x.longer(3), -2);
        Check.due("25 four", x.longer(4), 2);
        Check.row("25 four", x, 7);
        Check.due("25 none in 0", x.longer(0), -2);
        Check.row("25 the ROW stays", x, 7);
        Check.due("25 11", x.longer(11), -1);
        Check.due("25 -1", x.longer(-1), -1);
        Check.due("25 no VILLAGES", new OneFiddle().longer(1), -1);
        OneFiddle like = Check.with("v0;v0;v0;rab9;rac9", "b0-0$5*1;c0-0$5*1;a0-0$5*1");
        Check.due("25 of equal ones the first", like.longer(2), 0);
        Check.row("25 of equal ones the first", like, 5);
        like.set(2, 1);
        like.set(3, 1);
        Check.due("25 not in LENT", like.longer(2), -2);
        OneFiddle last = Check.with("v0;v0;rab9", "b99-99$5*1;a99-99$5*1");
        last.stay(60);
        last.stay(39);
        Check.due("25 99 at most", last.longer(5), -2);
        OneFiddle over = Check.with("v0", "a0-0$5*1;a2-2$4*1");
        over.set(2, 0);
        over.set(3, 0);
        over.stay(1);
        Check.due("25 one that is over", over.longer(1), 0);
        Check.row("25 one that is over", over, 5);
        over.stay(1);
        Check.due("25 it's over for good", over.longer(1), -2);
    }

    // 26
    private static void learns() {
        OneFiddle x = ordinary();
        Check.due("26 three", x.learns(3), 22);
        Check.row("26 three", x, 2, 3);
        Check.due("26 one", x.learns(1), 5);
        Check.row("26 one", x, -1, 1);
        Check.due("26 none", x.learns(0), 0);
        Check.row("26 none", x, -1, 0);
        Check.due("26 ten", x.learns(10), 22);
        Check.row("26 ten", x, 3, 2);
        Check.due("26 11", x.learns(11), -1);
        Check.due("26 -1", x.learns(-1), -1);
        Check.due("26 no VILLAGES", new OneFiddle().learns(1), -1);
        OneFiddle nine = Check.with("v0", "a1-1$0*9;a3-3$0*1");
        Check.due("26 nine", nine.learns(4), 10);
        Check.row("26 nine are enough", nine, 2, 2);
    }

    // 27
    private static void second() {
        OneFiddle x = ordinary();
        x.far(0, 1);
        Check.due("27 at 0", x.second(0, 3), 3);
        Check.due("27 at 2", x.second(2, 3), 3);
        Check.due("27 at 2, 2 nights", x.second(2, 2), 0);
        Check.due("27 in 0", x.second(0, 0), 0);
        Check.row("27 no ROW", x, 0, 1);
        Check.due("27 7", x.second(0, 7), -1);
        Check.due("27 -1", x.second(0, -1), -1);
        Check.due("27 none such", x.second(3, 3), -1);
        Check.due("27 below", x.second(-1, 3), -1);
        Check.due("27 no VILLAGES", new OneFiddle().second(0, 1), -1);
        OneFiddle each = Check.with("v0;v0;v0;rab9", "a0-0$9*1;c0-0$5*1;c0-0$5*1;c1-1$7*1");
        Check.due("27 each halved", each.second(2, 2), 2 + 2 + 3);
        Check.due("27 he is not there", each.second(1, 2), 0);
        OneFiddle six = Check.with("v0;v0", "b5-5$9*1;b6-6$9*1");
        Check.due("27 six nights", six.second(1, 6), 4);
    }

    // 28
    private static void tune() {
        OneFiddle x = ordinary();
        Check.due("28 first", Check.tune(x, "abc", 0), 0);
        Check.due("28 second", Check.tune(x, "g", 2), 1);
        Check.due("28 twelve", Check.tune(x, "abcdefgabcde", 1), 2);
        Check.due("28 thirteen", Check.tune(x, "abcdefgabcdef", 1), -13);
        Check.due("28 thirteen and ill", Check.tune(x, "abcdefgabcde;", 1), -13);
        Check.due("28 none", Check.tune(x, "", 1), -1);
        Check.due("28 h", Check.tune(x, "h", 1), -1);
        Check.due("28 abx", Check.tune(x, "abx", 1), -3);
        Check.due("28 A", Check.tune(x, "bA", 1), -2);
        Check.due("28 text is empty", x.count(14), 0);
        Check.due("28 none such", Check.tune(x, "abc", 3), -100);
        Check.due("28 none such, asked first", Check.tune(x, "x", -1), -100);
        Check.due("28 text is empty too", x.count(14), 0);
        Check.due("28 three", x.count(11), 3);
        for (int k = 3; k < 8; k++) {
            Check.due("28 more", Check.tune(x, "abc", 0), k);
        }
        Check.due("28 the ninth", Check.tune(x, "abc", 0), -100);
        Check.due("28 the ninth, ill", Check.tune(x, "x", 0), -100);
        Check.due("28 eight", x.count(11), 8);
    }

    // 29
    private static void hush() {
        OneFiddle x = tunes("abc", "abd", "bd");
        Check.due("29 three", x.hush(), 3);
        Check.due("29 none", x.hush(), 0);
        Check.due("29 count", x.count(11), 0);
        Check.due("29 tree", x.tree(), -2);
        Check.due("29 from 0 on", Check.tune(x, "c", 0), 0);
    }

    private static OneFiddle tunes(String... texts) {
        OneFiddle x = ordinary();
        for (int k = 0; k < texts.length; k++) {
            Check.due("28 tune " + texts[k], Check.tune(x, texts[k], k % 3), k);
        }
        return x;
    }

    // 30
    private static void differ() {
        OneFiddle x = tunes("abc", "abd", "bd", "abcdefgabcde", "bcdefgabcdef", "aaaa");
        int[][] want = {{0, 1, 1, 2}, {1, 2, 1, 0}, {0, 2, 2, 0}, {0, 0, 0, 3}, {2, 2, 0, 2}, {3, 4, 2, 0}, {0, 3, 9, 3},
            {5, 0, 3, 1}, {5, 3, 10, 1}};
        for (int[] call : want) {
            String what = "30 differ(" + call[0] + ", " + call[1] + ")";
            Check.due(what, x.differ(call[0], call[1]), call[2]);
            Check.row(what, x, call[3]);
        }
        Check.due("30 none such", x.differ(6, 0), -1);
        Check.due("30 none such, the second", x.differ(0, 6), -1);
        Check.due("30 below", x.differ(-1, 0), -1);
    }

    // 31
    private static void whence() {
        OneFiddle x = tunes("abc", "abd", "bd", "abd", "c");
        Check.due("31 whence", x.whence(), 1 + 1 + 0 + 2);
        Check.row("31 whence", x, 0, 1, 1, 0);
        OneFiddle one = tunes("abc");
        one.far(0, 1);
        Check.due("31 one", one.whence(), 0);
        Check.row("31 one", one);
        OneFiddle none = ordinary();
        none.far(0, 1);
        Check.due("31 none", none.whence(), -2);
        Check.row("31 the ROW stays", none, 0, 1);
    }

    // 32
    private static void tree() {
        OneFiddle x = tunes("abc", "abd", "bd");
        Check.due("32 tree", x.tree(), 2);
        Check.row("32 tree", x, 2);
        OneFiddle back = tunes("aaaa", "bbbb", "abbb", "aabb", "aaab");
        Check.due("32 any from any", back.tree(), 4);
        Check.row("32 any from any", back, 2);
        Check.due("32 by whence", back.whence(), 4 + 1 + 1 + 1);
        OneFiddle star = tunes("aaa", "baa", "aba", "aab");
        Check.due("32 a star", star.tree(), 3);
        Check.row("32 a star", star, 3);
        OneFiddle like = tunes("ab", "b", "a", "c");
        Check.due("32 equal ones", like.tree(), 3);
        Check.row("32 the least one in it", like, 2);
        OneFiddle last = tunes("b", "ca", "c", "cc");
        last.tree();
        Check.row("32 the least comer, the least in it", last, 2);
        OneFiddle first = tunes("c", "aab", "aac", "a", "bc");
        first.tree();
        Check.row("32 from TUNE 0 on, the comer first", first, 2);
        OneFiddle one = tunes("abc");
        Check.due("32 one", one.tree(), 0);
        Check.row("32 one", one, 0);
        Check.due("32 none", ordinary().tree(), -2);
    }

    // 33
    private static void got() {
        OneFiddle x = tunes("abc", "abd", "bd");
        Check.due("33 bdd", Check.got(x, "bdd"), 4);
        Check.row("33 bdd", x, 1);
        Check.due("33 all of as few", Check.got(x, "abcd"), 3);
        Check.row("33 all of as few", x, 1);
        Check.due("33 the same", Check.got(x, "abc"), 1);
        Check.row("33 the same", x, 0);
        Check.due("33 text is empty", x.count(14), 0);
        Check.due("33 no TUNE is told", x.count(11), 3);
        Check.due("33 none", Check.got(x, ""), -1);
        Check.due("33 abx", Check.got(x, "abx"), -3);
        Check.due("33 thirteen", Check.got(x, "abcdefgabcdef"), -13);
        Check.row("33 the ROW stays", x, 0);
        OneFiddle none = new OneFiddle();
        Check.due("33 no TUNES", Check.got(none, "abc"), -200);
        Check.due("33 asked last", Check.got(none, "abx"), -3);
    }

    // 34
    private static void breaks() {
        OneFiddle x = new OneFiddle();
        Check.due("34 two of five", x.breaks(2, 5), 0);
        Check.row("34 two of five", x, 3, 4);
        x.breaks(12, 10);
        Check.row("34 surely", x, 1, 1);
        x.breaks(1, 0);
        Check.row("34 never", x, 0, 1);
        x.breaks(12, 1);
        Check.row("34 twelve", x, 717570463519L, 1000000000000L);
        x.breaks(1, 4);
        Check.row("34 one", x, 2, 5);
        x.breaks(3, 8);
        Check.row("34 three", x, 124, 125);
        int[][] ill = {{0, 1}, {13, 1}, {-1, 1}, {1, -1}, {1, 11}};
        for (int[] call : ill) {
            Check.due("34 breaks(" + call[0] + ", " + call[1] + ")", x.breaks(call[0], call[1]), -1);
        }
        Check.row("34 the ROW stays", x, 124, 125);
    }

    // 35
    private static void bids() {
        OneFiddle x = Check.with("v5;v5", "");
        Check.due("35 no way, worth 0", x.bids(0, 1, 0), 1);
        Check.row("35 no way, worth 0", x, 0, 0);
        OneFiddle y = ordinary();
        y.set(0, 25);
        y.night(2);
        Check.due("35 the second is nearer", y.bids(0, 1, 3), 3);
        Check.row("35 the second is nearer", y, 2, 2);
        Check.due("35 the first is nearer", y.bids(1, 0, 3), 3);
        Check.row("35 the first is nearer", y, 2, 2);
        Check.due("35 worth 9", y.bids(1, 0, 9), 3);
        Check.row("35 worth 9", y, 8, 8);
        Check.due("35 worth 1", y.bids(0, 1, 1), 3);
        Check.row("35 worth 1", y, 0, 0);
        Check.due("35 worth 1, the first", y.bids(1, 0, 1), 3);
        Check.row("35 worth 1, the first", y, 0, 0);
        Check.due("35 like ones", y.bids(1, 1, 3), -1);
        Check.due("35 none such", y.bids(0, 3, 3), -1);
        Check.due("35 none such, the first", y.bids(-1, 0, 3), -1);
        Check.due("35 worth 10", y.bids(0, 1, 10), -1);
        Check.due("35 worth -1", y.bids(0, 1, -1), -1);
        Check.row("35 the ROW stays", y, 0, 0);
    }

    // 36
    private static void kinds() {
        OneFiddle x = new OneFiddle();
        Check.due("36 none", x.kinds(5), 0);
        Check.row("36 none", x, 0, 0);
        x.set(1, 2);
        x.set(2, 1);
        x.set(3, 2);
        Check.due("36 five", x.kinds(5), 3);
        Check.row("36 five", x, 2, 1);
        Check.due("36 one", x.kinds(1), 1);
        Check.row("36 one", x, 0, 0);
        Check.due("36 99", x.kinds(99), 50);
        Check.due("36 0", x.kinds(0), -1);
        Check.due("36 100", x.kinds(100), -1);
        Check.row("36 the ROW stays", x, 2, 1);
        OneFiddle y = ordinary();
        y.stay(5);
        y.set(1, 6);
        y.set(2, 6);
        y.set(3, 99);
        Check.due("36 from NIGHT on", y.kinds(2), 1);
        Check.row("36 from NIGHT on", y, 1, 1);
    }

    // 37
    private static void years() {
        OneFiddle x = ordinary();
        int played = x.years(1, 1);
        int drawn = ((1103515245 + 12345) >>> 16) % 3;
        Check.due("37 the first draw", drawn, 1103527590 / 65536 % 3);
        Check.due("37 one night", played, drawn == 1 ? 1 : 0);
        Check.row("37 one night", x, drawn == 1 ? 9 : 0, drawn == 1 ? 8 : 0, drawn == 2 ? 1 : 0);
        x.far(0, 0);
        String state = Check.stateOf(x);
        x.years(-5, 60);
        x.far(0, 0);
        Check.due("37 questions change nothing", Check.stateOf(x).equals(state), true);
        Check.due("37 0", x.years(1, 0), -1);
        Check.due("37 61", x.years(1, 61), -1);
        Check.due("37 no VILLAGES", new OneFiddle().years(1, 1), -1);
        Check.row("37 the ROW stays", x, 0);
    }

    // 38, 39
    private static void keepAndAgain() {
        OneFiddle x = ordinary();
        Check.due("38 2", x.keep(2), false);
        Check.due("38 -1", x.keep(-1), false);
        Check.due("39 nothing kept", x.again(0), false);
        Check.due("39 2", x.again(2), false);
        Check.due("39 -1", x.again(-1), false);
        Check.due("38 0", x.keep(0), true);
        String first = fiddlerOf(x);
        x.night(1);
        x.move(2, 3);
        Check.due("38 1", x.keep(1), true);
        String second = fiddlerOf(x);
        x.stay(3);
        x.sheet(2, 4, 1, 1);
        x.set(0, 33);
        Check.due("39 0", x.again(0), true);
        Check.due("39 as it was first", fiddlerOf(x).equals(first), true);
        Check.due("39 nothing to undo", x.undo(), -1);
        Check.due("39 1", x.again(1), true);
        Check.due("39 as it was then", fiddlerOf(x).equals(second), true);
        Check.due("39 BIDS stay", x.feast(3, 3), 4);
        Check.due("39 REACH stays", x.set(0, 20), 33);
        Check.due("39 0 again", x.again(0), true);
        Check.hills(x, "x");
        Check.feasts(x, "x");
        x.hills();
        x.feasts();
        Check.due("39 nothing came since", x.again(1), true);
        Check.hills(x, "rab30");
        Check.due("39 a ROAD came since", x.again(1), false);
        Check.due("39 nor the other", x.again(0), false);
        x.keep(0);
        Check.feasts(x, "a0-0$1*1");
        Check.due("39 a FEAST came since", x.again(0), false);
        x.keep(0);
        x.keep(1);
        x.night(1);
        x.keep(1);
        x.night(1);
        Check.due("39 kept anew", x.again(1), true);
        Check.due("39 NIGHT", x.count(3), fiddlerNight(x));
        Check.due("38 no VILLAGES", new OneFiddle().keep(1), true);
    }

    private static int fiddlerNight(OneFiddle x) {
        int night = x.count(3);
        x.again(0);
        int ahead = x.count(3);
        x.again(1);
        return night == ahead + 1 ? night : -9;
    }

    // 40, 41
    private static void countAndRow() {
        OneFiddle x = ordinary();
        x.night(1);
        x.night(2);
        x.night(1);
        Check.tune(x, "abc", 0);
        x.sign(0);
        int[] want = {3, 3, 4, 3, 1, 37, 33, 3, 22, 11, 4, 1, 3, 3, 4};
        for (int what = 0; what < want.length; what++) {
            Check.due("40 count(" + what + ")", x.count(what), want[what]);
        }
        Check.due("40 15", x.count(15), -1);
        Check.due("40 -1", x.count(-1), -1);
        Check.due("40 MIN", x.count(MIN_VALUE), -1);
        Check.row("41 row", x, 4, 15, 13);
        Check.throwsNone("41 MAX", () -> x.row(MAX_VALUE));
        Check.throwsNone("41 MIN", () -> x.row(MIN_VALUE));
        x.round(10);
        Check.due("41 ten", x.count(13), 10);
        x.round(0);
        Check.throwsNone("41 none", () -> x.row(0));
    }

    /** Refused calls change nothing, neither the ROW nor anything else. */
    private static void refusedCalls() {
        OneFiddle x = ordinary();
        x.night(1);
        x.keep(0);
        x.round(4);
        String state = Check.stateOf(x);
        long[] answers = {x.end(9) ? 1 : -1, x.set(9, 9), x.sheet(9, 0, 0, 0), x.night(9), x.stay(99), x.move(9, 0),
            x.far(9, 9), x.comes(9), x.round(99), x.richest(99), x.all(99), x.worth(9, 9), x.longer(99), x.learns(99),
            x.second(9, 9), x.differ(0, 0), x.breaks(0, 0), x.bids(0, 0, 0), x.kinds(0), x.years(0, 0),
            x.keep(9) ? 1 : -1, x.again(9) ? 1 : -1, x.count(99)};
        for (int k = 0; k < answers.length; k++) {
            Check.due("refused " + k, answers[k], -1);
        }
        long[] why = {x.all(6), x.worth(0, 3), x.longer(0), x.whence(), x.tree(), x.move(0, 0), x.sheet(0, -1, 0, 0)};
        for (int k = 0; k < why.length; k++) {
            Check.due("why " + k, why[k], -2);
        }
        Check.due("all is as it was", Check.stateOf(x).equals(state), true);
    }
}
