import java.util.NoSuchElementException;

/** One fiddle for nine villages: a fiddler who can be in one barn a night. */
public final class OneFiddle {
    public static final int NONE = -1;

    private static final int MOST_VILLAGES = 9;
    private static final int MOST_ROADS = 24;
    private static final int MOST_FEASTS = 8;
    private static final int MOST_TUNES = 8;
    private static final int MOST_NOTES = 12;
    private static final int MOST_STRINGS = 4;
    private static final int MOST_TIRED = 99;
    private static final int LAST_NIGHT = 99;
    private static final int MOST_STAYED = 60;
    private static final int MOST_PLANNED = 10;
    private static final int MOST_FOR_TWO = 6;
    private static final int MOST_COMING = 12;
    private static final int NO_WAY = -2;

    private final Script text = new Script();
    private final Numbers row = new Numbers();
    private final Land land = new Land();
    private final Sky sky = new Sky();
    private final Fairs fairs = new Fairs();
    private final Fatigue fatigue = new Fatigue();
    private final Story story = new Story();
    private final Story spare = new Story();
    private final Past past = new Past();
    private final Acts acts = new Acts();
    private final Rounds rounds = new Rounds();
    private final Songs songs = new Songs();
    /** What came into PURSE by the nights of the call that runs. */
    private int earned;

    public OneFiddle() {
    }

    // ---- the hills, the feasts

    public int sign(int v) {
        return text.addFour(v);
    }

    public boolean end(int n) {
        return text.cutTo(n);
    }

    public int hills() {
        if (text.length == 0) {
            return 0;
        }
        int told = land.read(text);
        text.clear();
        if (told > 0) {
            past.forgetAll();
        }
        return told;
    }

    public int feasts() {
        if (text.length == 0) {
            return 0;
        }
        int told = fairs.read(text, land, story);
        text.clear();
        if (told > 0) {
            past.forgetAll();
        }
        return told;
    }

    public int rule() {
        int told = fatigue.read(text);
        text.clear();
        return told;
    }

    public int village(int village, int what) throws NoSuchElementException {
        if (!land.has(village) || what < 0 || what > 3) {
            throw new NoSuchElementException();
        }
        switch (what) {
            case 0:
                return land.foodOf(village);
            case 1:
                return fairs.bitsAt(village);
            case 2:
                return story.openAt(fairs, village, story.night);
            default:
                return land.miles(story.at, village);
        }
    }

    public int feast(int feast, int what) throws NoSuchElementException {
        if (!fairs.has(feast) || what < 0 || what > 6) {
            throw new NoSuchElementException();
        }
        switch (what) {
            case 0:
                return fairs.at[feast];
            case 1:
                return story.from[feast];
            case 2:
                return story.to[feast];
            case 3:
                return fairs.bid[feast];
            case 4:
                return fairs.tunes[feast];
            case 5:
                return story.wasPlayed(feast) ? 1 : 0;
            default:
                return story.isOver(feast) ? 1 : 0;
        }
    }

    public int set(int what, int v) {
        return sky.change(what, v);
    }

    public int sheet(int kind, int n, int f, int step) {
        if (kind < 0 || kind > 3 || n > MOST_FEASTS) {
            return NONE;
        }
        if (kind == 3) {
            fairs.bidBySheet(kind, 0, f, step);
            return -3;
        }
        if (n < 0) {
            return -2;
        }
        return fairs.bidBySheet(kind, n, f, step);
    }

    // ---- nights

    public int night(int village) {
        int refusal = refusalToGo(village);
        if (refusal < 0) {
            return refusal;
        }
        past.push(story);
        int tired = story.tired;
        int miles = land.miles(story.at, village);
        int played = spendNight(story, village);
        row.clear();
        row.add(story.paid);
        row.add(miles);
        row.add(story.tired - tired);
        return played;
    }

    public int stay(int n) {
        int refusal = refusalToStay(n);
        if (refusal < 0) {
            return refusal;
        }
        if (n > 0) {
            past.push(story);
        }
        earned = 0;
        int played = sleepOn(n);
        row.clear();
        row.add(earned);
        row.add(story.night);
        return played;
    }

    public int mend() {
        if (!story.canMend()) {
            return -2;
        }
        past.push(story);
        return story.buyStrings();
    }

    public int move(int feast, int n) {
        if (!fairs.has(feast) || n < -9 || n > 9) {
            return NONE;
        }
        if (story.wasPlayed(feast)) {
            return -2;
        }
        if (story.from[feast] + n < 0 || story.to[feast] + n > LAST_NIGHT) {
            return -3;
        }
        past.push(story);
        story.from[feast] += n;
        story.to[feast] += n;
        return story.from[feast];
    }

    public int season() {
        int told = acts.read(text);
        text.clear();
        if (told < 0) {
            return told;
        }
        spare.copyFrom(story);
        earned = 0;
        int done = 0;
        int played = 0;
        boolean stopped = false;
        for (int k = 0; k < told && !stopped; k++) {
            int answer = doAct(acts.kindOf(k), acts.numberOf(k));
            if (answer < 0) {
                stopped = true;
            } else {
                played += acts.kindOf(k) == 'm' ? 0 : answer;
                done++;
            }
        }
        if (done > 0) {
            past.push(spare);
        }
        row.clear();
        row.add(stopped ? 1 : 0);
        row.add(played);
        row.add(earned);
        return done;
    }

    public int undo() {
        return past.takeBack(story);
    }

    // ---- ways

    public int far(int from, int to) {
        if (!land.has(from) || !land.has(to)) {
            return NONE;
        }
        int miles = land.miles(from, to);
        if (miles < 0) {
            return NO_WAY;
        }
        row.clear();
        land.tellWay(from, to, row);
        return miles;
    }

    public int reach() {
        int miles = sky.walk(story.night);
        row.clear();
        row.add(miles);
        return land.near(story.at, miles);
    }

    public int comes(int village) {
        if (!land.has(village)) {
            return NONE;
        }
        rounds.layWays(land, sky, story.night, MOST_COMING);
        int nights = rounds.nightsTo(story.at, village);
        if (nights < 0) {
            return -2;
        }
        row.clear();
        rounds.tellPath(nights, row);
        return nights;
    }

    // ---- rounds

    public int round(int n) {
        if (!canPlan(n, MOST_PLANNED)) {
            return NONE;
        }
        planRound(n);
        row.clear();
        rounds.tellPath(n, row);
        return rounds.gain();
    }

    public int richest(int n) {
        if (!canPlan(n, MOST_PLANNED)) {
            return NONE;
        }
        planRichest(n);
        row.clear();
        rounds.tellPath(n, row);
        return rounds.gain();
    }

    public int all(int those) {
        if (land.villages == 0 || !fairs.areBits(those)) {
            return NONE;
        }
        layPlan(MOST_PLANNED);
        rounds.spread(story.at, story.played, MOST_PLANNED);
        int nights = rounds.nightsForAll(those);
        if (nights < 0) {
            return -2;
        }
        rounds.weighWhole(those);
        rounds.trace(nights);
        row.clear();
        rounds.tellPath(nights, row);
        return nights;
    }

    public int clash() {
        if (land.villages == 0) {
            return NONE;
        }
        layPlan(MOST_PLANNED);
        rounds.spread(story.at, story.played, MOST_PLANNED);
        rounds.findPlayable(MOST_PLANNED);
        int those = rounds.leastUnplayable(story.played);
        if (those < 0) {
            return -2;
        }
        row.clear();
        row.add(Integer.bitCount(those));
        return those;
    }

    public int worth(int feast, int n) {
        if (!fairs.has(feast) || !canPlan(n, MOST_PLANNED)) {
            return NONE;
        }
        if (story.wasPlayed(feast)) {
            return -2;
        }
        layPlan(n);
        rounds.weighBids(fairs, 1);
        int with = rounds.bestFrom(story.at, story.played, n);
        int without = rounds.bestFrom(story.at, story.played | 1 << feast, n);
        return with - without;
    }

    public int longer(int n) {
        if (!canPlan(n, MOST_PLANNED)) {
            return NONE;
        }
        layPlan(n);
        rounds.weighBids(fairs, 1);
        int before = rounds.bestFrom(story.at, story.played, n);
        int most = 0;
        int which = NONE;
        for (int feast = 0; feast < fairs.count; feast++) {
            int more = gainOfOneNight(feast, n) - before;
            if (more > most) {
                most = more;
                which = feast;
            }
        }
        if (which < 0) {
            return -2;
        }
        row.clear();
        row.add(most);
        return which;
    }

    public int learns(int n) {
        if (!canPlan(n, MOST_PLANNED)) {
            return NONE;
        }
        planRound(n);
        int tunes = 0;
        int learnt = NONE;
        int busy = 0;
        for (int k = 1; k <= n; k++) {
            int tonight = fairs.tunesOf(rounds.playedIn(k));
            tunes += tonight;
            busy += tonight > 0 ? 1 : 0;
            if (tunes >= 9 && learnt == NONE) {
                learnt = k;
            }
        }
        row.clear();
        row.add(learnt);
        row.add(busy);
        return tunes;
    }

    public int second(int village, int n) {
        if (!land.has(village) || !canPlan(n, MOST_FOR_TWO)) {
            return NONE;
        }
        planRichest(n);
        int gone = rounds.playedBy(n);
        rounds.weighBids(fairs, 2);
        return rounds.bestFrom(village, gone, n);
    }

    // ---- tunes

    public int tune(int village) {
        int told = !land.has(village) || songs.isFull() ? -100 : songs.read(text);
        text.clear();
        return told < 0 ? told : songs.keepDraft(village);
    }

    public int hush() {
        return songs.forget();
    }

    public int differ(int one, int other) {
        if (!songs.has(one) || !songs.has(other)) {
            return NONE;
        }
        row.clear();
        row.add(songs.likePlaces(one, other));
        return songs.changes(one, other);
    }

    public int whence() {
        if (songs.count == 0) {
            return -2;
        }
        row.clear();
        return songs.tellOrigins(row);
    }

    public int tree() {
        if (songs.count == 0) {
            return -2;
        }
        row.clear();
        return songs.tellTree(row);
    }

    public int got() {
        int told = songs.read(text);
        text.clear();
        if (told < 0) {
            return told;
        }
        if (songs.count == 0) {
            return -200;
        }
        int fewest = songs.fewestFromDraft();
        row.clear();
        row.add(fewest);
        return songs.heardWithin(fewest);
    }

    // ---- odds, bids

    public int breaks(int n, int p) {
        if (n < 1 || n > 12 || p < 0 || p > 10) {
            return NONE;
        }
        long all = power(10, n);
        long broken = all - power(10 - p, n);
        long common = commonDivisor(all, broken);
        row.clear();
        row.add(common > 0 ? broken / common : broken);
        row.add(common > 0 ? all / common : all);
        return 0;
    }

    public int bids(int one, int other, int v) {
        if (!land.has(one) || !land.has(other) || one == other || v < 0 || v > 9) {
            return NONE;
        }
        boolean firstIfLike = isNoFarther(one, other);
        int pairs = 0;
        row.clear();
        for (int a = 0; a <= 9; a++) {
            for (int b = 0; b <= 9; b++) {
                if (areSettled(a, b, v, firstIfLike)) {
                    if (pairs == 0) {
                        row.add(a);
                        row.add(b);
                    }
                    pairs++;
                }
            }
        }
        return pairs;
    }

    public int kinds(int n) {
        if (n < 1 || n > 99) {
            return NONE;
        }
        int moonless = 0;
        int lent = 0;
        int both = 0;
        for (int k = 0; k < n; k++) {
            boolean dark = sky.isMoonless(story.night + k);
            boolean fast = sky.isLent(story.night + k);
            moonless += dark ? 1 : 0;
            lent += fast ? 1 : 0;
            both += dark && fast ? 1 : 0;
        }
        row.clear();
        row.add(lent);
        row.add(both);
        return moonless;
    }

    public int years(int seed, int n) {
        int villages = land.villages;
        if (n < 1 || n > MOST_STAYED || villages <= 0) {
            return NONE;
        }
        spare.copyFrom(story);
        earned = 0;
        int random = seed;
        int played = 0;
        int failed = 0;
        for (int k = 0; k < n; k++) {
            random = random * 1103515245 + 12345;
            int drawn = (random >>> 16) % villages;
            boolean goes = land.canWalk(spare.at, drawn, sky.walk(spare.night));
            failed += goes ? 0 : 1;
            played += spendNight(spare, goes ? drawn : spare.at);
        }
        row.clear();
        row.add(earned);
        row.add(spare.tired);
        row.add(failed);
        return played;
    }

    // ---- kept

    public boolean keep(int i) {
        return past.keepUnder(i, story);
    }

    public boolean again(int i) {
        return past.bringBack(i, story);
    }

    public int count(int what) {
        switch (what) {
            case 0:
                return land.villages;
            case 1:
                return land.roads;
            case 2:
                return fairs.count;
            case 3:
                return story.night;
            case 4:
                return story.at;
            case 5:
                return story.tired;
            case 6:
                return story.purse;
            case 7:
                return story.strings;
            case 8:
                return story.worn;
            case 9:
                return story.played;
            case 10:
                return story.overBits(fairs.count);
            case 11:
                return songs.count;
            case 12:
                return past.length;
            case 13:
                return row.length;
            case 14:
                return text.length;
            default:
                return NONE;
        }
    }

    public long row(int i) throws NoSuchElementException {
        if (!row.has(i)) {
            throw new NoSuchElementException();
        }
        return row.at(i);
    }

    // ---- what several calls share

    private int refusalToGo(int village) {
        if (!land.has(village)) {
            return NONE;
        }
        return land.canWalk(story.at, village, sky.walk(story.night)) ? 0 : NO_WAY;
    }

    private int refusalToStay(int n) {
        if (land.villages == 0) {
            return -2;
        }
        return n < 0 || n > MOST_STAYED ? NONE : 0;
    }

    private int spendNight(Story whose, int village) {
        int played = whose.pass(land, sky, fairs, fatigue, village);
        earned += whose.paid;
        return played;
    }

    private int sleepOn(int n) {
        int played = 0;
        for (int k = 0; k < n; k++) {
            played += spendNight(story, story.at);
        }
        return played;
    }

    /** An ACT's answer, as the call of its own would give it; nothing of it can be undone alone. */
    private int doAct(int kind, int number) {
        if (kind == 'm') {
            return story.canMend() ? story.buyStrings() : -2;
        }
        if (kind == 'z') {
            int refusal = refusalToStay(number);
            return refusal < 0 ? refusal : sleepOn(number);
        }
        int refusal = refusalToGo(number);
        return refusal < 0 ? refusal : spendNight(story, number);
    }

    private boolean canPlan(int n, int most) {
        return land.villages > 0 && n >= 0 && n <= most;
    }

    private void layPlan(int n) {
        rounds.layWays(land, sky, story.night, n);
        rounds.layFeasts(sky, fairs, story, n);
    }

    private void planRound(int n) {
        layPlan(n);
        rounds.weighCount();
        rounds.spread(story.at, story.played, n);
        rounds.trace(n);
    }

    private void planRichest(int n) {
        layPlan(n);
        rounds.weighBids(fairs, 1);
        rounds.spread(story.at, story.played, n);
        rounds.trace(n);
    }

    /** richest() of n NIGHTS, if a FEAST's last night were one more. */
    private int gainOfOneNight(int feast, int n) {
        if (!fairs.has(feast) || story.wasPlayed(feast) || story.to[feast] >= LAST_NIGHT) {
            return 0;
        }
        int night = story.to[feast] + 1;
        int k = night - story.night;
        if (k < 0 || k >= n || sky.isLent(night)) {
            return 0;
        }
        rounds.toggleFeast(k, fairs.at[feast], feast);
        int gain = rounds.bestFrom(story.at, story.played, n);
        rounds.toggleFeast(k, fairs.at[feast], feast);
        return gain;
    }

    private boolean isNoFarther(int one, int other) {
        int toOne = land.miles(story.at, one);
        int toOther = land.miles(story.at, other);
        if (toOther < 0) {
            return true;
        }
        return toOne >= 0 && toOne <= toOther;
    }

    private static boolean areSettled(int a, int b, int v, boolean firstIfLike) {
        int first = share(a, b, v, firstIfLike);
        int second = share(b, a, v, !firstIfLike);
        for (int bid = 0; bid <= 9; bid++) {
            if (share(bid, b, v, firstIfLike) > first || share(bid, a, v, !firstIfLike) > second) {
                return false;
            }
        }
        return true;
    }

    /** What a VILLAGE gets by its BID against another one's. */
    private static int share(int mine, int its, int v, boolean mineIfLike) {
        boolean won = mine > its || mine == its && mineIfLike;
        return won ? v - mine : 0;
    }

    private static long power(int base, int n) {
        long product = 1;
        for (int k = 0; k < n; k++) {
            product *= base;
        }
        return product;
    }

    private static long commonDivisor(long one, long other) {
        long a = one;
        long b = other;
        for (int k = 0; k < 1000 && b != 0; k++) {
            long rest = a % b;
            a = b;
            b = rest;
        }
        return a;
    }

    /** THE TEXT, and the place from which it is read. */
    private static final class Script {
        private static final int ROOM = 80;

        private final char[] signs = new char[ROOM];
        private int length;
        private int place;
        private int limit;

        int addFour(int v) {
            if (length < 0 || length + 4 > ROOM) {
                return NONE;
            }
            for (int k = 0; k < 4; k++) {
                signs[length + k] = (char) (v >>> 24 - 8 * k & 255);
            }
            length += 4;
            return length;
        }

        boolean cutTo(int n) {
            if (n < 0 || n > length) {
                return false;
            }
            length = n;
            return true;
        }

        void clear() {
            length = 0;
        }

        void begin(int most) {
            place = 0;
            limit = Math.min(length, most);
        }

        /** The sign at the place, NONE at the end of what may be read. */
        int look() {
            return place >= 0 && place < limit && place < ROOM ? signs[place] : NONE;
        }

        boolean take(int sign) {
            if (look() != sign) {
                return false;
            }
            place++;
            return true;
        }

        boolean isAtDigit() {
            int sign = look();
            return sign >= '0' && sign <= '9';
        }

        /** A number of 1 to so many digits; NONE, if there is no digit. */
        int takeNumber(int digits) {
            if (!isAtDigit()) {
                return NONE;
            }
            int number = 0;
            for (int k = 0; k < digits && isAtDigit(); k++) {
                number = number * 10 + look() - '0';
                place++;
            }
            return number;
        }

        /** The number of a letter (a: 0) among the first ones, but not that of another one; else NONE. */
        int takeLetter(int letters, int other) {
            int letter = look() - 'a';
            if (letter < 0 || letter >= letters || letter == other) {
                return NONE;
            }
            place++;
            return letter;
        }

        /** The last sign that was taken can't stand there. */
        void giveBack() {
            if (place > 0) {
                place--;
            }
        }

        boolean isWhole() {
            return place == length;
        }

        int refusal() {
            return -1 - place;
        }
    }

    /** The ROW. */
    private static final class Numbers {
        private static final int ROOM = 16;

        private final long[] told = new long[ROOM];
        private int length;

        void clear() {
            length = 0;
        }

        void add(long number) {
            if (length >= 0 && length < ROOM) {
                told[length] = number;
                length++;
            }
        }

        boolean has(int i) {
            return i >= 0 && i < length && i < ROOM;
        }

        long at(int i) {
            return has(i) ? told[i] : NONE;
        }
    }

    /** THE HILLS: VILLAGES, ROADS and the shortest ways. */
    private static final class Land {
        private static final int SIGNS = 76;
        private static final int TOO_FAR = 1000000;

        private int villages;
        private int roads;
        private final int[] food = new int[MOST_VILLAGES];
        private final int[] one = new int[MOST_ROADS];
        private final int[] other = new int[MOST_ROADS];
        private final int[] miles = new int[MOST_ROADS];
        private final int[][] road = new int[MOST_VILLAGES][MOST_VILLAGES];
        private final int[][] way = new int[MOST_VILLAGES][MOST_VILLAGES];
        /** What there is with the LINES that were read, till they are all right. */
        private int villagesTold;
        private int roadsTold;

        boolean has(int village) {
            return village >= 0 && village < villages && village < MOST_VILLAGES;
        }

        int foodOf(int village) {
            return has(village) ? food[village] : 0;
        }

        /** How many LINES were told, or -1 - the place of the sign that can't stand there. */
        int read(Script text) {
            villagesTold = villages;
            roadsTold = roads;
            text.begin(SIGNS);
            for (int lines = 1; lines <= SIGNS; lines++) {
                if (!readLine(text)) {
                    return text.refusal();
                }
                if (!text.take(';')) {
                    return text.isWhole() ? settle(lines) : text.refusal();
                }
            }
            return text.refusal();
        }

        private boolean readLine(Script text) {
            if (villagesTold < MOST_VILLAGES && text.take('v')) {
                return readVillage(text);
            }
            if (roadsTold < MOST_ROADS && text.take('r')) {
                return readRoad(text);
            }
            return false;
        }

        private boolean readVillage(Script text) {
            int amount = text.takeNumber(1);
            if (amount < 0 || villagesTold < 0 || villagesTold >= MOST_VILLAGES) {
                return false;
            }
            food[villagesTold] = amount;
            villagesTold++;
            return true;
        }

        private boolean readRoad(Script text) {
            int first = text.takeLetter(villagesTold, NONE);
            if (first < 0) {
                return false;
            }
            int last = text.takeLetter(villagesTold, first);
            if (last < 0) {
                return false;
            }
            int length = text.takeNumber(2);
            if (length == 0) {
                text.giveBack();
            }
            if (length <= 0 || roadsTold < 0 || roadsTold >= MOST_ROADS) {
                return false;
            }
            one[roadsTold] = first;
            other[roadsTold] = last;
            miles[roadsTold] = length;
            roadsTold++;
            return true;
        }

        private int settle(int lines) {
            villages = villagesTold;
            roads = roadsTold;
            layRoads();
            findWays();
            return lines;
        }

        private void layRoads() {
            for (int a = 0; a < MOST_VILLAGES; a++) {
                for (int b = 0; b < MOST_VILLAGES; b++) {
                    road[a][b] = a == b ? 0 : TOO_FAR;
                }
            }
            for (int k = 0; k < roads && k < MOST_ROADS; k++) {
                int a = one[k];
                int b = other[k];
                if (has(a) && has(b)) {
                    int shortest = Math.min(road[a][b], miles[k]);
                    road[a][b] = shortest;
                    road[b][a] = shortest;
                }
            }
        }

        private void findWays() {
            for (int a = 0; a < MOST_VILLAGES; a++) {
                for (int b = 0; b < MOST_VILLAGES; b++) {
                    way[a][b] = road[a][b];
                }
            }
            for (int over = 0; over < MOST_VILLAGES; over++) {
                for (int a = 0; a < MOST_VILLAGES; a++) {
                    for (int b = 0; b < MOST_VILLAGES; b++) {
                        way[a][b] = Math.min(way[a][b], way[a][over] + way[over][b]);
                    }
                }
            }
        }

        /** MILES by the shortest way, NONE without one. */
        int miles(int from, int to) {
            if (!has(from) || !has(to)) {
                return NONE;
            }
            return way[from][to] >= TOO_FAR ? NONE : way[from][to];
        }

        boolean canWalk(int from, int to, int most) {
            int length = miles(from, to);
            return length >= 0 && length <= most;
        }

        /** VILLAGES (bits) that are no farther. */
        int near(int from, int most) {
            int bits = 0;
            for (int to = 0; to < villages && to < MOST_VILLAGES; to++) {
                if (has(from) && way[from][to] <= most) {
                    bits |= 1 << to;
                }
            }
            return bits;
        }

        void tellWay(int from, int to, Numbers row) {
            row.add(from);
            int here = from;
            for (int k = 0; k < MOST_VILLAGES && here != to && has(here); k++) {
                here = leastNext(here, to);
                row.add(here);
            }
        }

        private int leastNext(int here, int to) {
            if (!has(here) || !has(to)) {
                return to;
            }
            for (int next = 0; next < villages && next < MOST_VILLAGES; next++) {
                if (next != here && road[here][next] + way[next][to] == way[here][to]) {
                    return next;
                }
            }
            return to;
        }
    }

    /** REACH, MOON, LENT. */
    private static final class Sky {
        private int reach = 20;
        private int moon = 0;
        private int lentFrom = 99;
        private int lentTo = 0;

        /** What it was; NONE, if it can't be. */
        int change(int what, int v) {
            int least = what == 0 ? 1 : 0;
            int most = what == 1 ? 30 : 99;
            if (what < 0 || what > 3 || v < least || v > most) {
                return NONE;
            }
            int was;
            if (what == 0) {
                was = reach;
                reach = v;
            } else if (what == 1) {
                was = moon;
                moon = v;
            } else if (what == 2) {
                was = lentFrom;
                lentFrom = v;
            } else {
                was = lentTo;
                lentTo = v;
            }
            return was;
        }

        boolean isMoonless(int night) {
            return moon > 0 && night % moon == 0;
        }

        boolean isLent(int night) {
            return night >= lentFrom && night <= lentTo;
        }

        int walk(int night) {
            return isMoonless(night) ? reach / 2 : reach;
        }
    }

    /** FEASTS, but for their spans and what was played: these are told by a Story. */
    private static final class Fairs {
        private static final int SIGNS = 76;

        private int count;
        private int told;
        private final int[] at = new int[MOST_FEASTS];
        private final int[] bid = new int[MOST_FEASTS];
        private final int[] tunes = new int[MOST_FEASTS];

        boolean has(int feast) {
            return feast >= 0 && feast < count && feast < MOST_FEASTS;
        }

        boolean areBits(int those) {
            return those >= 0 && those < 1 << count;
        }

        int bitsAt(int village) {
            int bits = 0;
            for (int k = 0; k < count && k < MOST_FEASTS; k++) {
                if (at[k] == village) {
                    bits |= 1 << k;
                }
            }
            return bits;
        }

        int tunesOf(int those) {
            int sum = 0;
            for (int k = 0; k < count && k < MOST_FEASTS; k++) {
                sum += (those >> k & 1) != 0 ? tunes[k] : 0;
            }
            return sum;
        }

        /** BIDS of FEASTS, each divided by the part (1 or 2) and cut. */
        int bidsOf(int those, int part) {
            int sum = 0;
            for (int k = 0; k < count && k < MOST_FEASTS; k++) {
                sum += (those >> k & 1) != 0 ? bidFor(k, part) : 0;
            }
            return sum;
        }

        int bidFor(int feast, int part) {
            if (feast < 0 || feast >= MOST_FEASTS) {
                return 0;
            }
            return part == 2 ? bid[feast] / 2 : bid[feast];
        }

        int bidBySheet(int kind, int n, int f, int step) {
            int sum = 0;
            for (int k = 0; k < count && k < MOST_FEASTS; k++) {
                bid[k] = k < n ? entry(kind, f + k * step) : 0;
                sum += bid[k];
            }
            return sum;
        }

        private int entry(int kind, int v) {
            int number = v;
            if (kind == 0) {
                number = (byte) v;
            } else if (kind == 1) {
                number = (short) v;
            }
            return Math.max(0, Math.min(99, number));
        }

        /** How many LINES were told, or -1 - the place of the sign that can't stand there. */
        int read(Script text, Land land, Story story) {
            told = count;
            text.begin(SIGNS);
            for (int lines = 1; lines <= SIGNS; lines++) {
                if (!readLine(text, land, story)) {
                    return text.refusal();
                }
                if (!text.take(';')) {
                    return text.isWhole() ? settle(lines) : text.refusal();
                }
            }
            return text.refusal();
        }

        private int settle(int lines) {
            count = told;
            return lines;
        }

        private boolean readLine(Script text, Land land, Story story) {
            if (told < 0 || told >= MOST_FEASTS) {
                return false;
            }
            int village = text.takeLetter(land.villages, NONE);
            if (village < 0 || !readSpan(text, story)) {
                return false;
            }
            int price = text.take('$') ? text.takeNumber(2) : NONE;
            if (price < 0 || !text.take('*')) {
                return false;
            }
            int length = text.look() == '0' ? NONE : text.takeNumber(1);
            if (length < 0) {
                return false;
            }
            at[told] = village;
            bid[told] = price;
            tunes[told] = length;
            told++;
            return true;
        }

        private boolean readSpan(Script text, Story story) {
            int from = text.takeNumber(2);
            if (from < 0 || !text.take('-')) {
                return false;
            }
            int to = text.takeNumber(2);
            if (to < 0) {
                return false;
            }
            if (to < from) {
                text.giveBack();
                return false;
            }
            story.tellSpan(told, from, to);
            return true;
        }
    }

    /** NIGHT, THE FIDDLER, what was played, from and to of FEASTS: all that can be undone. */
    private static final class Story {
        private int night;
        private int at;
        private int tired;
        private int purse;
        private int strings = MOST_STRINGS;
        private int worn;
        private int played;
        /** What came into PURSE in the latest night. */
        private int paid;
        private final int[] from = new int[MOST_FEASTS];
        private final int[] to = new int[MOST_FEASTS];

        void copyFrom(Story other) {
            night = other.night;
            at = other.at;
            tired = other.tired;
            purse = other.purse;
            strings = other.strings;
            worn = other.worn;
            played = other.played;
            for (int k = 0; k < MOST_FEASTS; k++) {
                from[k] = other.from[k];
                to[k] = other.to[k];
            }
        }

        void tellSpan(int feast, int first, int last) {
            if (feast >= 0 && feast < MOST_FEASTS) {
                from[feast] = first;
                to[feast] = last;
            }
        }

        boolean wasPlayed(int feast) {
            return (played >> feast & 1) != 0;
        }

        boolean isOver(int feast) {
            return feast >= 0 && feast < MOST_FEASTS && !wasPlayed(feast) && to[feast] < night;
        }

        int overBits(int feasts) {
            int bits = 0;
            for (int k = 0; k < feasts; k++) {
                if (isOver(k)) {
                    bits |= 1 << k;
                }
            }
            return bits;
        }

        /** FEASTS (bits) at a VILLAGE that are not played and in whose span a night is. */
        int openAt(Fairs fairs, int village, int when) {
            int bits = 0;
            for (int k = 0; k < fairs.count && k < MOST_FEASTS; k++) {
                boolean waits = from[k] <= when && when <= to[k];
                if (waits && fairs.at[k] == village && !wasPlayed(k)) {
                    bits |= 1 << k;
                }
            }
            return bits;
        }

        boolean canMend() {
            return purse >= MOST_STRINGS - strings;
        }

        int buyStrings() {
            int price = MOST_STRINGS - strings;
            purse -= price;
            strings = MOST_STRINGS;
            return price;
        }

        /** A NIGHT at a VILLAGE to which he can walk: how many FEASTS were played. */
        int pass(Land land, Sky sky, Fairs fairs, Fatigue fatigue, int village) {
            int miles = Math.max(0, land.miles(at, village));
            at = village;
            boolean plays = strings > 0 && !sky.isLent(night);
            int those = plays ? openAt(fairs, village, night) : 0;
            int tunes = fairs.tunesOf(those);
            paid = fairs.bidsOf(those, tired >= 50 ? 2 : 1);
            int stringsAhead = strings;
            purse += paid;
            played |= those;
            wearStrings(tunes);
            if (miles == 0 && those == 0) {
                tired = tired / 2;
            } else {
                fatigue.tellWalk(miles, tunes, land.foodOf(village));
                fatigue.tellBefore(tired, night, stringsAhead);
                // as longs, for a rule may come near the ends of the ints
                long more = (long) tired + fatigue.work();
                tired = (int) Math.max(0, Math.min(MOST_TIRED, more));
            }
            night++;
            return Integer.bitCount(those);
        }

        private void wearStrings(int tunes) {
            int broken = (worn + tunes) / 20 - worn / 20;
            worn += tunes;
            strings = Math.max(0, strings - broken);
        }
    }

    /** THE RULE: things and signs in the order in which they are worked out. */
    private static final class Fatigue {
        private static final int SIGNS = 40;
        private static final int DEEPEST = 4;
        private static final String LETTERS = "mtfdns";
        private static final int LETTERS_IN_ALL = 6;
        /** Codes: numbers as they are, letters from here on, signs below 0. */
        private static final int FIRST_LETTER = 1000;
        /** No sign of a text has this number. */
        private static final int NEGATE = 256;

        private final int[] code = new int[SIGNS];
        private int length;
        private final int[] draft = new int[SIGNS];
        private int draftLength;
        /** Signs whose things are not all read yet. */
        private final int[] waiting = new int[SIGNS];
        private int waitingLength;
        private int depth;
        private final boolean[] compared = new boolean[DEEPEST + 1];
        private boolean wantsThing;
        private final int[] stack = new int[SIGNS];
        private final int[] given = new int[LETTERS_IN_ALL];

        /** 0, or -1 - the place of the sign that can't stand there. */
        int read(Script text) {
            text.begin(SIGNS);
            if (text.isWhole()) {
                length = 0;
                return 0;
            }
            beginDraft();
            for (int k = 0; k <= SIGNS && text.look() != NONE; k++) {
                boolean taken = wantsThing ? takeThing(text) : takeSign(text);
                if (!taken) {
                    return text.refusal();
                }
            }
            if (wantsThing || depth > 0 || !text.isWhole()) {
                return text.refusal();
            }
            release(0);
            length = draftLength;
            for (int k = 0; k < SIGNS; k++) {
                code[k] = draft[k];
            }
            return 0;
        }

        private void beginDraft() {
            draftLength = 0;
            waitingLength = 0;
            depth = 0;
            compared[0] = false;
            wantsThing = true;
        }

        private boolean takeThing(Script text) {
            if (text.take('-')) {
                hold(NEGATE);
                return true;
            }
            if (depth >= 0 && depth < DEEPEST && text.take('(')) {
                hold('(');
                depth++;
                compared[depth] = false;
                return true;
            }
            int number = text.takeNumber(3);
            if (number < 0) {
                int letter = letterAt(text.look());
                if (letter < 0 || !text.take(text.look())) {
                    return false;
                }
                number = FIRST_LETTER + letter;
            }
            write(number);
            wantsThing = false;
            return true;
        }

        private int letterAt(int sign) {
            for (int k = 0; k < LETTERS_IN_ALL; k++) {
                if (LETTERS.charAt(k) == sign) {
                    return k;
                }
            }
            return NONE;
        }

        private boolean takeSign(Script text) {
            int sign = text.look();
            if (sign == ')') {
                if (depth <= 0) {
                    return false;
                }
                release(0);
                waitingLength--;
                depth--;
                return text.take(')');
            }
            int rank = rankOf(sign);
            if (rank == 0 || rank == 1 && hasCompared()) {
                return false;
            }
            release(rank);
            hold(sign);
            wantsThing = true;
            return text.take(sign);
        }

        /** Whether the EXPRESSION had its comparison; it has one from now on. */
        private boolean hasCompared() {
            if (depth < 0 || depth > DEEPEST || compared[depth]) {
                return true;
            }
            compared[depth] = true;
            return false;
        }

        private static int rankOf(int sign) {
            switch (sign) {
                case '<':
                case '>':
                case '=':
                    return 1;
                case '+':
                case '-':
                    return 2;
                case '*':
                case '/':
                    return 3;
                case NEGATE:
                    return 4;
                default:
                    return 0;
            }
        }

        private void hold(int sign) {
            if (waitingLength >= 0 && waitingLength < SIGNS) {
                waiting[waitingLength] = sign;
                waitingLength++;
            }
        }

        /** Writes the signs that bind as much or more, back to the latest ( that is open. */
        private void release(int rank) {
            for (int k = 0; k < SIGNS && waitingLength > 0 && waitingLength <= SIGNS; k++) {
                int sign = waiting[waitingLength - 1];
                if (sign == '(' || rankOf(sign) < rank) {
                    return;
                }
                write(-sign);
                waitingLength--;
            }
        }

        private void write(int what) {
            if (draftLength >= 0 && draftLength < SIGNS) {
                draft[draftLength] = what;
                draftLength++;
            }
        }

        void tellWalk(int miles, int tunes, int food) {
            given[0] = miles;
            given[1] = tunes;
            given[2] = food;
        }

        void tellBefore(int tired, int night, int strings) {
            given[3] = tired;
            given[4] = night;
            given[5] = strings;
        }

        /** How much more TIRED he is, by what was told of the night. */
        int work() {
            if (length == 0) {
                return given[0] / 2 + given[1] - given[2] / 3;
            }
            int height = 0;
            for (int k = 0; k < length && k < SIGNS; k++) {
                int what = code[k];
                if (what >= 0 && height < SIGNS) {
                    stack[height] = valueOf(what);
                    height++;
                } else if (what == -NEGATE && height > 0) {
                    stack[height - 1] = -stack[height - 1];
                } else if (height > 1) {
                    height--;
                    stack[height - 1] = join(-what, stack[height - 1], stack[height]);
                }
            }
            return stack[0];
        }

        private int valueOf(int what) {
            int letter = what - FIRST_LETTER;
            return letter >= 0 && letter < LETTERS_IN_ALL ? given[letter] : what;
        }

        private static int join(int sign, int a, int b) {
            switch (sign) {
                case '<':
                    return a < b ? 1 : 0;
                case '>':
                    return a > b ? 1 : 0;
                case '=':
                    return a == b ? 1 : 0;
                case '+':
                    return a + b;
                case '-':
                    return a - b;
                case '*':
                    return a * b;
                default:
                    return b == 0 ? 0 : a / b;
            }
        }
    }

    /** What can be undone, and what is kept. */
    private static final class Past {
        private static final int MOST_UNDONE = 12;
        private static final int MOST_KEPT = 2;

        private final Story[] latest = new Story[MOST_UNDONE];
        private int first;
        private int length;
        private final Story[] kept = new Story[MOST_KEPT];
        private final boolean[] isKept = new boolean[MOST_KEPT];

        Past() {
            for (int k = 0; k < MOST_UNDONE; k++) {
                latest[k] = new Story();
            }
            for (int k = 0; k < MOST_KEPT; k++) {
                kept[k] = new Story();
            }
        }

        private Story inRing(int k) {
            int place = (first + k) % MOST_UNDONE;
            return place >= 0 ? latest[place] : null;
        }

        void push(Story story) {
            if (length >= MOST_UNDONE) {
                first = (first + 1) % MOST_UNDONE;
                length = MOST_UNDONE - 1;
            }
            Story place = inRing(length);
            if (place != null) {
                place.copyFrom(story);
                length++;
            }
        }

        /** How many are left that can be undone; NONE, if there is none. */
        int takeBack(Story story) {
            if (length <= 0) {
                return NONE;
            }
            Story before = inRing(length - 1);
            if (before == null) {
                return NONE;
            }
            story.copyFrom(before);
            length--;
            return length;
        }

        boolean keepUnder(int i, Story story) {
            if (i < 0 || i >= MOST_KEPT || kept[i] == null) {
                return false;
            }
            kept[i].copyFrom(story);
            isKept[i] = true;
            return true;
        }

        boolean bringBack(int i, Story story) {
            if (i < 0 || i >= MOST_KEPT || !isKept[i] || kept[i] == null) {
                return false;
            }
            story.copyFrom(kept[i]);
            length = 0;
            return true;
        }

        void forgetAll() {
            length = 0;
            for (int k = 0; k < MOST_KEPT; k++) {
                isKept[k] = false;
            }
        }
    }

    /** The ACTS of A SEASON. */
    private static final class Acts {
        private static final int SIGNS = 60;

        private final int[] kinds = new int[SIGNS];
        private final int[] numbers = new int[SIGNS];

        /** How many ACTS there are, or -1 - the place of the sign that can't stand there. */
        int read(Script text) {
            text.begin(SIGNS);
            if (text.isWhole()) {
                return 0;
            }
            for (int k = 0; k < SIGNS; k++) {
                if (!readAct(text, k)) {
                    return text.refusal();
                }
                if (!text.take(';')) {
                    return text.isWhole() ? k + 1 : text.refusal();
                }
            }
            return text.refusal();
        }

        private boolean readAct(Script text, int k) {
            int kind = text.look();
            int number = 0;
            if (text.take('g')) {
                number = text.takeLetter(MOST_VILLAGES, NONE);
            } else if (text.take('z')) {
                number = text.takeNumber(2);
            } else if (!text.take('m')) {
                return false;
            }
            if (number < 0 || k < 0 || k >= SIGNS) {
                return false;
            }
            kinds[k] = kind;
            numbers[k] = number;
            return true;
        }

        int kindOf(int k) {
            return k >= 0 && k < SIGNS ? kinds[k] : 'm';
        }

        int numberOf(int k) {
            return k >= 0 && k < SIGNS ? numbers[k] : 0;
        }
    }

    /** Rounds: by nights to come, which FEASTS (bits) can be played, and where he is then. */
    private static final class Rounds {
        private static final int NIGHTS = MOST_COMING;
        private static final int SETS = 1 << MOST_FEASTS;

        private int villages;
        private int sets;
        private int start;
        private int startSet;
        /** VILLAGES (bits) to which he can go in a night to come from a VILLAGE; as many back. */
        private final int[][] near = new int[NIGHTS][MOST_VILLAGES];
        /** FEASTS (bits) that wait for him in a night to come at a VILLAGE. */
        private final int[][] open = new int[NIGHTS][MOST_VILLAGES];
        /** Behind so many nights, with a set played: VILLAGES (bits) where he can be. */
        private final int[][] reached = new int[NIGHTS + 1][SETS];
        /** Of these, those from which the best can still come. */
        private final int[][] good = new int[NIGHTS + 1][SETS];
        /** What each set is worth. */
        private final int[] value = new int[SETS];
        private final boolean[] playable = new boolean[SETS];
        private final int[] path = new int[NIGHTS];
        private final int[] playedOnPath = new int[NIGHTS + 1];
        private int gain;

        int gain() {
            return gain;
        }

        void layWays(Land land, Sky sky, int night, int n) {
            villages = Math.min(land.villages, MOST_VILLAGES);
            for (int k = 0; k < n && k < NIGHTS; k++) {
                int miles = sky.walk(night + k);
                for (int v = 0; v < villages; v++) {
                    near[k][v] = land.near(v, miles);
                }
            }
        }

        void layFeasts(Sky sky, Fairs fairs, Story story, int n) {
            sets = Math.min(1 << fairs.count, SETS);
            for (int k = 0; k < n && k < NIGHTS; k++) {
                int night = story.night + k;
                boolean lent = sky.isLent(night);
                for (int v = 0; v < villages && v < MOST_VILLAGES; v++) {
                    open[k][v] = lent ? 0 : story.openAt(fairs, v, night);
                }
            }
        }

        void toggleFeast(int k, int village, int feast) {
            if (k >= 0 && k < NIGHTS && village >= 0 && village < MOST_VILLAGES) {
                open[k][village] ^= 1 << feast;
            }
        }

        void weighCount() {
            for (int set = 0; set < sets && set < SETS; set++) {
                value[set] = Integer.bitCount(set);
            }
        }

        void weighBids(Fairs fairs, int part) {
            value[0] = 0;
            for (int k = 0; k < fairs.count && k < MOST_FEASTS; k++) {
                int bid = fairs.bidFor(k, part);
                int bit = 1 << k;
                for (int set = 0; set < bit && set + bit < SETS; set++) {
                    value[set + bit] = value[set] + bid;
                }
            }
        }

        /** A set is worth 1, if those are in it. */
        void weighWhole(int those) {
            for (int set = 0; set < sets && set < SETS; set++) {
                value[set] = (set & those) == those ? 1 : 0;
            }
        }

        void spread(int village, int set, int n) {
            start = village;
            startSet = set;
            clearSets(0);
            if (set >= 0 && set < SETS) {
                reached[0][set] = 1 << village;
            }
            for (int k = 0; k < n && k < NIGHTS; k++) {
                clearSets(k + 1);
                for (int s = 0; s < sets && s < SETS; s++) {
                    if (reached[k][s] != 0) {
                        spreadSet(k, s);
                    }
                }
            }
        }

        private void clearSets(int k) {
            if (k >= 0 && k <= NIGHTS) {
                for (int s = 0; s < sets && s < SETS; s++) {
                    reached[k][s] = 0;
                }
            }
        }

        private void spreadSet(int k, int s) {
            if (k < 0 || k >= NIGHTS || s < 0 || s >= SETS) {
                return;
            }
            int targets = nearOfAll(k, reached[k][s]);
            for (int v = 0; v < villages && v < MOST_VILLAGES; v++) {
                int next = s | open[k][v];
                if ((targets >> v & 1) != 0 && next >= 0 && next < SETS) {
                    reached[k + 1][next] |= 1 << v;
                }
            }
        }

        /** VILLAGES (bits) to which he can go from any of those in a night to come. */
        private int nearOfAll(int k, int those) {
            int bits = 0;
            if (k >= 0 && k < NIGHTS) {
                for (int v = 0; v < villages && v < MOST_VILLAGES; v++) {
                    if ((those >> v & 1) != 0) {
                        bits |= near[k][v];
                    }
                }
            }
            return bits;
        }

        /** The most that a set is worth which can be played in n nights. */
        private int bestValue(int n) {
            int best = 0;
            for (int s = 0; s < sets && s < SETS; s++) {
                if (n >= 0 && n <= NIGHTS && reached[n][s] != 0) {
                    best = Math.max(best, value[s]);
                }
            }
            return best;
        }

        private int startValue() {
            return startSet >= 0 && startSet < SETS ? value[startSet] : 0;
        }

        int bestFrom(int village, int set, int n) {
            spread(village, set, n);
            return bestValue(n) - startValue();
        }

        /** The least row by which the best set is played in n nights. */
        void trace(int n) {
            int best = bestValue(n);
            gain = best - startValue();
            if (n < 0 || n > NIGHTS) {
                return;
            }
            for (int s = 0; s < sets && s < SETS; s++) {
                good[n][s] = value[s] == best ? reached[n][s] : 0;
            }
            for (int k = n - 1; k >= 0; k--) {
                for (int s = 0; s < sets && s < SETS; s++) {
                    good[k][s] = reached[k][s] == 0 ? 0 : reached[k][s] & comeFrom(k, s);
                }
            }
            follow(n);
        }

        /** VILLAGES (bits) from which a night to come leads to a good end. */
        private int comeFrom(int k, int s) {
            int bits = 0;
            for (int v = 0; v < villages && v < MOST_VILLAGES; v++) {
                if (isGood(k, s, v)) {
                    bits |= near[k][v];
                }
            }
            return bits;
        }

        /** Whether with a set played it's good to be at a VILLAGE in a night to come. */
        private boolean isGood(int k, int s, int v) {
            if (k < 0 || k >= NIGHTS || v < 0 || v >= MOST_VILLAGES) {
                return false;
            }
            int next = s | open[k][v];
            return next >= 0 && next < SETS && (good[k + 1][next] >> v & 1) != 0;
        }

        private void follow(int n) {
            int here = start;
            int set = startSet;
            playedOnPath[0] = set;
            for (int k = 0; k < n && k < NIGHTS; k++) {
                here = leastGood(k, set, here);
                if (here < 0 || here >= MOST_VILLAGES) {
                    return;
                }
                set |= open[k][here];
                path[k] = here;
                playedOnPath[k + 1] = set;
            }
        }

        private int leastGood(int k, int set, int here) {
            int targets = nearOfAll(k, 1 << here);
            for (int v = 0; v < villages && v < MOST_VILLAGES; v++) {
                if ((targets >> v & 1) != 0 && isGood(k, set, v)) {
                    return v;
                }
            }
            return here;
        }

        void tellPath(int n, Numbers row) {
            for (int k = 0; k < n && k < NIGHTS; k++) {
                row.add(path[k]);
            }
        }

        /** FEASTS (bits) that are played, on the path that was traced, in its night k (1 ..). */
        int playedIn(int k) {
            if (k < 1 || k > NIGHTS) {
                return 0;
            }
            return playedOnPath[k] & ~playedOnPath[k - 1];
        }

        /** FEASTS (bits) that are played behind n nights of the path that was traced. */
        int playedBy(int n) {
            return n >= 0 && n <= NIGHTS ? playedOnPath[n] : 0;
        }

        /** The fewest nights behind which those can be played; NONE, if they can't. */
        int nightsForAll(int those) {
            for (int n = 0; n <= MOST_PLANNED; n++) {
                for (int s = 0; s < sets && s < SETS; s++) {
                    if (reached[n][s] != 0 && (s & those) == those) {
                        return n;
                    }
                }
            }
            return NONE;
        }

        /** Marks the sets that can be played in n nights, and all that are within them. */
        void findPlayable(int n) {
            for (int s = Math.min(sets, SETS) - 1; s >= 0; s--) {
                playable[s] = n >= 0 && n <= NIGHTS && reached[n][s] != 0;
                for (int feast = 0; feast < MOST_FEASTS; feast++) {
                    int more = s | 1 << feast;
                    if (more > s && more < sets && playable[more]) {
                        playable[s] = true;
                    }
                }
            }
        }

        /** The smallest and then least set without those, that can't be played; NONE without one. */
        int leastUnplayable(int without) {
            int least = NONE;
            for (int s = 0; s < sets && s < SETS; s++) {
                boolean isFewer = least < 0 || Integer.bitCount(s) < Integer.bitCount(least);
                if ((s & without) == 0 && !playable[s] && isFewer) {
                    least = s;
                }
            }
            return least;
        }

        /** The fewest nights (12 at most) in which he comes to a VILLAGE, by the path; NONE: more. */
        int nightsTo(int from, int village) {
            int here = 1 << from;
            int nights = 0;
            for (int k = 0; k < NIGHTS && (here >> village & 1) == 0; k++) {
                here = nearOfAll(k, here);
                nights++;
            }
            if ((here >> village & 1) == 0) {
                return NONE;
            }
            traceTo(from, village, nights);
            return nights;
        }

        private void traceTo(int from, int village, int nights) {
            if (nights < 0 || nights > NIGHTS) {
                return;
            }
            // nothing is played on the way: the first column of the tables is enough
            good[nights][0] = 1 << village;
            for (int k = nights - 1; k >= 0; k--) {
                good[k][0] = nearOfAll(k, good[k + 1][0]);
            }
            int here = from;
            for (int k = 0; k < nights && k < NIGHTS; k++) {
                int targets = nearOfAll(k, 1 << here) & good[k + 1][0];
                here = leastOf(targets);
                path[k] = here;
            }
        }

        private int leastOf(int those) {
            for (int v = 0; v < MOST_VILLAGES; v++) {
                if ((those >> v & 1) != 0) {
                    return v;
                }
            }
            return 0;
        }
    }

    /** TUNES, and where they were heard. */
    private static final class Songs {
        private int count;
        private final int[][] notes = new int[MOST_TUNES + 1][MOST_NOTES];
        private final int[] lengths = new int[MOST_TUNES + 1];
        private final int[] heardAt = new int[MOST_TUNES];
        private final int[] above = new int[MOST_NOTES + 1];
        private final int[] below = new int[MOST_NOTES + 1];
        private final boolean[] isIn = new boolean[MOST_TUNES];
        private final int[] neighbours = new int[MOST_TUNES];
        private final int[][] between = new int[MOST_TUNES][MOST_TUNES];

        boolean has(int tune) {
            return tune >= 0 && tune < count && tune < MOST_TUNES;
        }

        boolean isFull() {
            return count >= MOST_TUNES;
        }

        int forget() {
            int were = count;
            count = 0;
            return were;
        }

        /** Reads a TUNE behind the others: 0, or -1 - the place of the sign that can't stand there. */
        int read(Script text) {
            text.begin(MOST_NOTES);
            int length = 0;
            for (int k = 0; k < MOST_NOTES; k++) {
                int note = text.takeLetter(7, NONE);
                if (note < 0) {
                    break;
                }
                notes[MOST_TUNES][k] = note;
                length++;
            }
            if (length == 0 || !text.isWhole()) {
                return text.refusal();
            }
            lengths[MOST_TUNES] = length;
            return 0;
        }

        int keepDraft(int village) {
            if (count < 0 || count >= MOST_TUNES) {
                return NONE;
            }
            for (int k = 0; k < MOST_NOTES; k++) {
                notes[count][k] = notes[MOST_TUNES][k];
            }
            lengths[count] = lengths[MOST_TUNES];
            heardAt[count] = village;
            count++;
            return count - 1;
        }

        private boolean isThere(int tune) {
            return tune >= 0 && tune <= MOST_TUNES;
        }

        int likePlaces(int one, int other) {
            int like = 0;
            if (isThere(one) && isThere(other)) {
                int length = Math.min(lengths[one], lengths[other]);
                for (int k = 0; k < length && k < MOST_NOTES; k++) {
                    like += notes[one][k] == notes[other][k] ? 1 : 0;
                }
            }
            return like;
        }

        /** By how many changes two differ, row by row of the table of their beginnings. */
        int changes(int one, int other) {
            if (!isThere(one) || !isThere(other)) {
                return 0;
            }
            int height = Math.min(lengths[one], MOST_NOTES);
            int width = Math.min(lengths[other], MOST_NOTES);
            for (int j = 0; j <= width; j++) {
                above[j] = j;
            }
            for (int i = 1; i <= height; i++) {
                below[0] = i;
                for (int j = 1; j <= width; j++) {
                    int put = notes[one][i - 1] == notes[other][j - 1] ? 0 : 1;
                    int step = Math.min(above[j], below[j - 1]) + 1;
                    below[j] = Math.min(step, above[j - 1] + put);
                }
                for (int j = 0; j <= width; j++) {
                    above[j] = below[j];
                }
            }
            return width >= 0 ? above[width] : 0;
        }

        int tellOrigins(Numbers row) {
            int sum = 0;
            for (int tune = 1; tune < count; tune++) {
                int fewest = changes(0, tune);
                int origin = 0;
                for (int k = 1; k < tune; k++) {
                    int by = changes(k, tune);
                    if (by < fewest) {
                        fewest = by;
                        origin = k;
                    }
                }
                sum += fewest;
                row.add(origin);
            }
            return sum;
        }

        int tellTree(Numbers row) {
            measureAll();
            int sum = 0;
            for (int k = 0; k < MOST_TUNES; k++) {
                isIn[k] = k == 0;
                neighbours[k] = 0;
            }
            for (int joined = 1; joined < count; joined++) {
                sum += joinNearest();
            }
            int ends = 0;
            for (int k = 0; k < count && k < MOST_TUNES; k++) {
                ends += neighbours[k] == 1 ? 1 : 0;
            }
            row.add(ends);
            return sum;
        }

        private void measureAll() {
            for (int a = 0; a < count && a < MOST_TUNES; a++) {
                for (int b = 0; b < a; b++) {
                    between[a][b] = changes(a, b);
                    between[b][a] = between[a][b];
                }
            }
        }

        /** Joins the TUNE that comes in by the fewest changes: by how many. */
        private int joinNearest() {
            int fewest = MOST_NOTES + 1;
            int comer = 0;
            int host = 0;
            for (int a = 0; a < count && a < MOST_TUNES; a++) {
                for (int b = 0; b < count && b < MOST_TUNES; b++) {
                    if (!isIn[a] && isIn[b] && between[a][b] < fewest) {
                        fewest = between[a][b];
                        comer = a;
                        host = b;
                    }
                }
            }
            isIn[comer] = true;
            neighbours[comer]++;
            neighbours[host]++;
            return fewest;
        }

        int fewestFromDraft() {
            int fewest = MOST_NOTES + 1;
            for (int k = 0; k < count; k++) {
                fewest = Math.min(fewest, changes(MOST_TUNES, k));
            }
            return fewest;
        }

        /** VILLAGES (bits) where TUNES were heard from which the draft differs by no more. */
        int heardWithin(int fewest) {
            int bits = 0;
            for (int k = 0; k < count && k < MOST_TUNES; k++) {
                if (changes(MOST_TUNES, k) <= fewest) {
                    bits |= 1 << heardAt[k];
                }
            }
            return bits;
        }
    }
}
