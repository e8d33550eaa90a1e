import java.util.Arrays;

/** A terrace of houses on that coast, an ark to each, as the document ArkTerrace tells. */
public final class ArkTerrace {
    public static final int BAD = -1, STATE = -2, FULL = -3, NONE = -4;

    private static final int HOUSES_MOST = 4, THINGS_MOST = 8, WEEK = 7;
    private static final int HEIGHT_MOST = 20, ROOM_MOST = 40, LEAK_MOST = 3, PLACE_MOST = 99;
    private static final int KIND_MOST = 3, SIZE_LEAST = 1, SIZE_MOST = 9, WORTH_MOST = 9;
    private static final int RISE_MOST = 8, WIND_MOST = 8, LEVEL_MOST = 20, SORROW_MOST = 999;
    private static final int CALM = 4, MIDDLE = 50;

    private static final int DAYS_AHEAD = 60, DAYS_AT_ONCE = 30, DAY_END = 1000;
    private static final int STORM_DAYS = 8, STORM_MORE = 2, ODDS = 10;
    private static final int SEEN_MOST = 6, SEEN_DAYS = 20, ROOMS_TOLD = 31;
    private static final int IMAGES = 2, SHEETS = 4, CELLS_MOST = 40, LANE_MOST = 2;

    private static final int NO_FAULT = 0, NULL_FAULT = 1, INDEX_FAULT = 2, CAST_FAULT = 3, SIZE_FAULT = 4;
    private static final int FAULT_BASE = -10, REFUSED_BASE = -20;

    private static final int[] HOUSE_MOST = {HEIGHT_MOST, ROOM_MOST, LEAK_MOST, PLACE_MOST};
    private static final int[] THING_LEAST = {0, SIZE_LEAST, 0};
    private static final int[] THING_MOST = {KIND_MOST, SIZE_MOST, WORTH_MOST};

    private final Terrace now;
    private final Terrace trial;
    private final Terrace[] images;
    private int imagesKept;
    private final Reader reader;
    private int textFault;
    private final Sightings sightings;
    private final Futures futures;
    private final Sheet[] sheets;
    private int readFault;

    public ArkTerrace() {
        now = new Terrace();
        trial = new Terrace();
        images = new Terrace[IMAGES];
        for (int k = 0; k < IMAGES; k++) {
            images[k] = new Terrace();
        }
        reader = new Reader();
        sightings = new Sightings();
        futures = new Futures();
        sheets = new Sheet[SHEETS];
        for (int k = 0; k < SHEETS; k++) {
            sheets[k] = new Sheet();
        }
    }

    // ---- the text, what there is

    public int feed(int c) {
        if (!within(c, 0, 127)) {
            return BAD;
        }
        return reader.tape.addByte(c) ? reader.tape.length : FULL;
    }

    public int end(int n) {
        int had = reader.tape.length;
        if (!within(n, 0, had)) {
            return BAD;
        }
        reader.tape.length = n;
        return had;
    }

    public int text() {
        // The reader tells it to a draft, so that a text with a fault leaves what stands.
        int lines = reader.readLines();
        reader.tape.length = 0;
        textFault = reader.faultFound;
        if (textFault != NO_FAULT) {
            return FAULT_BASE - reader.faultPlace;
        }
        now.copyFrom(reader.draft);
        sightings.size = 0;
        imagesKept = 0;
        return lines;
    }

    public int fault() {
        return textFault;
    }

    public int rule(int what) {
        switch (what) {
            case 0: return now.houses;
            case 1: return now.things;
            case 2: return now.day;
            case 3: return now.level;
            case 4: return now.sorrow;
            case 5: return now.wind;
            case 6: return now.afloat;
            case 7: return now.stowed;
            case 8: return now.gone;
            default: return BAD;
        }
    }

    public int house(int h, int what) {
        if (!now.isHouse(h) || !within(what, 0, 5)) {
            return BAD;
        }
        switch (what) {
            case 4: return now.filledOf(h);
            case 5: return now.thingsOf(h);
            default: return now.houseRow(what)[h];
        }
    }

    public int thing(int i, int what) {
        if (!now.isThing(i)) {
            return BAD;
        }
        switch (what) {
            case 0: return now.kindOf[i];
            case 1: return now.homeOf[i];
            case 2: return now.sizeOf[i];
            case 3: return now.worthOf[i];
            case 4: return now.whereIs(i);
            case 5: return now.fillOf(i);
            case 6: return now.costOf(i);
            default: return BAD;
        }
    }

    public int rise(int d) {
        return isWeekday(d) ? now.rises[d] : BAD;
    }

    // ---- what is changed

    public int build(int h, int what, int v) {
        if (!now.isHouse(h) || !within(what, 0, 3) || !within(v, 0, HOUSE_MOST[what])) {
            return BAD;
        }
        return replace(now.houseRow(what), h, v);
    }

    public int alter(int i, int what, int v) {
        if (!now.isThing(i) || !within(what, 0, 2) || !within(v, THING_LEAST[what], THING_MOST[what])) {
            return BAD;
        }
        return replace(now.thingRow(what), i, v);
    }

    public int tide(int d, int v) {
        if (!isWeekday(d) || !within(v, 0, RISE_MOST)) {
            return BAD;
        }
        return replace(now.rises, d, v);
    }

    public int blow(int v) {
        if (!within(v, 0, WIND_MOST)) {
            return BAD;
        }
        int was = now.wind;
        now.wind = v;
        return was;
    }

    public int stow(int i) {
        return now.putIn(i);
    }

    public int fetch(int i) {
        return now.takeOut(i);
    }

    // ---- days

    public int days(int n) {
        if (!within(n, 0, DAYS_AT_ONCE)) {
            return BAD;
        }
        if (now.day + n >= DAY_END) {
            return FULL;
        }
        int before = now.sorrow;
        now.passDays(n);
        return now.sorrow - before;
    }

    public int runs(int n, int what) {
        if (!isAhead(n) || !within(what, 0, 3)) {
            return BAD;
        }
        Terrace then = copyOfNow();
        int highest = then.level;
        for (int d = 0; d < n; d++) {
            then.passDays(1);
            highest = Math.max(highest, then.level);
        }
        switch (what) {
            case 0: return then.sorrow - now.sorrow;
            case 1: return then.gone;
            case 2: return then.afloat;
            default: return highest;
        }
    }

    public int ahead(int h, int n, int what) {
        if (!now.isHouse(h) || !isAhead(n) || !within(what, 0, 1)) {
            return BAD;
        }
        Terrace then = copyOfNow();
        then.passDays(n);
        return what == 0 ? then.place[h] : then.room[h];
    }

    public int lost(int i) {
        if (!now.isThing(i)) {
            return BAD;
        }
        Terrace then = copyOfNow();
        for (int d = 0; d <= DAYS_AHEAD; d++) {
            if (then.isGone(i)) {
                return d;
            }
            then.passDays(1);
        }
        return NONE;
    }

    public int meet(int h, int g) {
        if (!now.isHouse(h) || !now.isHouse(g) || h == g) {
            return BAD;
        }
        Terrace then = copyOfNow();
        for (int d = 0; d <= DAYS_AHEAD; d++) {
            if (then.isAfloat(h) && then.isAfloat(g) && then.place[h] == then.place[g]) {
                return d;
            }
            then.passDays(1);
        }
        return NONE;
    }

    // ---- what is best

    public int pack(int h, int what) {
        if (!now.isHouse(h) || !within(what, 0, 2)) {
            return BAD;
        }
        int set = dearestSet(h);
        switch (what) {
            case 0: return set;
            case 1: return now.costOfSet(set);
            default: return now.fillOfSet(set);
        }
    }

    public int need(int h, int n) {
        if (!now.isHouse(h) || !isAhead(n)) {
            return BAD;
        }
        for (int r = 0; r <= ROOM_MOST; r++) {
            Terrace then = copyOfNow();
            then.room[h] = r;
            then.stowed |= then.thingsOf(h) & ~then.gone;
            if (losesNoneOf(then, h, n)) {
                return r;
            }
        }
        return NONE;
    }

    public int high(int h, int n) {
        if (!now.isHouse(h) || !isAhead(n)) {
            return BAD;
        }
        for (int height = 0; height <= HEIGHT_MOST; height++) {
            Terrace then = copyOfNow();
            then.height[h] = height;
            if (losesNoneOf(then, h, n)) {
                return height;
            }
        }
        return NONE;
    }

    public int leak(int h, int n) {
        if (!now.isHouse(h) || !isAhead(n)) {
            return BAD;
        }
        int unchanged = sorrowBehind(copyOfNow(), n);
        for (int v = LEAK_MOST; v > now.leakOf[h]; v--) {
            Terrace then = copyOfNow();
            then.leakOf[h] = v;
            if (sorrowBehind(then, n) <= unchanged) {
                return v;
            }
        }
        // The leak that there is makes no more sorrow than itself.
        return now.leakOf[h];
    }

    public int swap(int n, int what) {
        if (!isAhead(n) || !within(what, 0, 1)) {
            return BAD;
        }
        int least = sorrowBehind(copyOfNow(), n);
        int best = NONE;
        for (int i = 0; i < now.things; i++) {
            for (int j = i + 1; j < now.things; j++) {
                if (now.mayChangeHomes(i, j)) {
                    Terrace then = copyOfNow();
                    then.changeHomes(i, j);
                    int sorrow = sorrowBehind(then, n);
                    if (sorrow < least) {
                        least = sorrow;
                        best = 10 * i + j;
                    }
                }
            }
        }
        return bestOrSorrow(best, least, what);
    }

    public int save(int n, int what) {
        if (!isAhead(n) || !within(what, 0, 1)) {
            return BAD;
        }
        int least = sorrowBehind(copyOfNow(), n);
        int best = NONE;
        for (int i = 0; i < now.things; i++) {
            Terrace then = copyOfNow();
            if (then.putIn(i) >= 0) {
                int sorrow = sorrowBehind(then, n);
                if (sorrow < least) {
                    least = sorrow;
                    best = i;
                }
            }
        }
        return bestOrSorrow(best, least, what);
    }

    public int kind(int i, int n, int what) {
        if (!now.isThing(i) || !isAhead(n) || !within(what, 0, 1)) {
            return BAD;
        }
        int least = SORROW_MOST + 1;
        int best = NONE;
        for (int k = 0; k <= KIND_MOST; k++) {
            Terrace then = copyOfNow();
            then.kindOf[i] = k;
            int sorrow = sorrowBehind(then, n);
            if (sorrow < least) {
                least = sorrow;
                best = k;
            }
        }
        return bestOrSorrow(best, least, what);
    }

    // ---- storms

    public long luck(int v, int i, int n, int what) {
        if (!within(v, 0, ODDS) || !now.isThing(i) || !within(n, 0, STORM_DAYS) || !within(what, 0, 1)) {
            return BAD;
        }
        long kept = 0;
        for (int storms = 0; storms < 1 << n; storms++) {
            long weight = weightOf(storms, v, n);
            if (weight > 0 && !behindStorms(storms, n).isGone(i)) {
                kept += weight;
            }
        }
        return fractionPart(kept, power(ODDS, n), what);
    }

    public long mean(int v, int n, int what) {
        if (!within(v, 0, ODDS) || !within(n, 0, STORM_DAYS) || !within(what, 0, 1)) {
            return BAD;
        }
        long sum = 0;
        for (int storms = 0; storms < 1 << n; storms++) {
            long weight = weightOf(storms, v, n);
            if (weight > 0) {
                sum += weight * (behindStorms(storms, n).sorrow - now.sorrow);
            }
        }
        return fractionPart(sum, power(ODDS, n), what);
    }

    // ---- what it was

    public int see(int n, int v) {
        if (!within(n, 0, SEEN_DAYS) || !within(v, 0, SORROW_MOST)) {
            return BAD;
        }
        return sightings.addSighting(n, v) ? sightings.size : FULL;
    }

    public int forget(int n) {
        if (!within(n, 0, sightings.size)) {
            return BAD;
        }
        int were = sightings.size;
        sightings.size = n;
        return were;
    }

    public int kinds(int i) {
        if (!now.isThing(i)) {
            return BAD;
        }
        futures.empty();
        for (int k = 0; k <= KIND_MOST; k++) {
            Terrace then = copyOfNow();
            then.kindOf[i] = k;
            futures.addRow(then, sightings.latestDay());
        }
        return sightings.rowsAsSeen(futures);
    }

    public int leaks(int h) {
        if (!now.isHouse(h)) {
            return BAD;
        }
        futures.empty();
        for (int v = 0; v <= LEAK_MOST; v++) {
            Terrace then = copyOfNow();
            then.leakOf[h] = v;
            futures.addRow(then, sightings.latestDay());
        }
        return sightings.rowsAsSeen(futures);
    }

    public int rooms(int h) {
        if (!now.isHouse(h)) {
            return BAD;
        }
        tellRooms(h, sightings.latestDay());
        return sightings.rowsAsSeen(futures);
    }

    public int ask(int h, int what) {
        if (!now.isHouse(h) || !within(what, 0, 1)) {
            return BAD;
        }
        tellRooms(h, SEEN_DAYS);
        int open = sightings.rowsAsSeen(futures);
        int fewest = Integer.bitCount(open);
        int best = NONE;
        for (int d = 0; d <= SEEN_DAYS; d++) {
            int left = futures.leftAtWorst(open, d);
            if (left < fewest) {
                fewest = left;
                best = d;
            }
        }
        return best == NONE || what == 0 ? best : fewest;
    }

    // ---- by a seed

    public int drift(int seed, int n, int what) {
        if (!within(n, 1, DAYS_AHEAD) || !within(what, 0, 1)) {
            return BAD;
        }
        if (now.houses == 0) {
            return STATE;
        }
        Terrace then = copyOfNow();
        int s = seed;
        for (int d = 0; d < n; d++) {
            s = s * 1103515245 + 12345;
            int got = (s >>> 16) & 0x7fff;
            then.passDay(got % 9, got / 16 % 9);
        }
        return what == 0 ? then.sorrow - now.sorrow : then.afloat;
    }

    // ---- images, sheets

    public int keep(int k) {
        if (!within(k, 0, IMAGES - 1)) {
            return BAD;
        }
        int was = imagesKept >> k & 1;
        images[k].copyFrom(now);
        imagesKept |= 1 << k;
        return was;
    }

    public int back(int k) {
        if (!within(k, 0, IMAGES - 1)) {
            return BAD;
        }
        if ((imagesKept >> k & 1) == 0) {
            return STATE;
        }
        now.copyFrom(images[k]);
        return now.day;
    }

    public int sheet(int k, int lane, int n) {
        if (!isSheet(k) || !within(lane, 0, LANE_MOST) || n > CELLS_MOST) {
            return BAD;
        }
        if (n < 0) {
            return FAULT_BASE - SIZE_FAULT;
        }
        sheets[k].renew(lane, n);
        return 1;
    }

    public int lay(int k, int i, int v) {
        if (!isSheet(k)) {
            return BAD;
        }
        Sheet row = sheets[k];
        int found = row.faultAt(row.lane, i);
        if (found != NO_FAULT) {
            return FAULT_BASE - found;
        }
        row.cells[i] = row.lowestBits(v);
        return 1;
    }

    public int read(int k, int lane, int f, int n) {
        if (!isSheet(k) || !within(lane, 0, LANE_MOST) || !within(n, 0, CELLS_MOST)) {
            return BAD;
        }
        Sheet row = sheets[k];
        // All are put in a copy first: one that is refused undoes those ahead of it.
        Terrace then = copyOfNow();
        int found = NO_FAULT;
        int came = 0;
        for (int j = 0; j < n && found == NO_FAULT; j++) {
            found = row.faultAt(lane, f + j);
            if (found == NO_FAULT) {
                if (then.putIn(row.cells[f + j]) < 0) {
                    return REFUSED_BASE - j;
                }
                came = j + 1;
            }
        }
        now.copyFrom(then);
        readFault = found;
        return came;
    }

    public int torn() {
        return readFault;
    }

    public int count(int what) {
        switch (what) {
            case 0: return sightings.size;
            case 1: return Integer.bitCount(imagesKept);
            case 2: return reader.tape.length;
            case 3: return sheets[0].made ? sheets[0].size : NONE;
            case 4: return sumOf(now.room, now.houses);
            case 5: return sumOf(now.worthOf, now.things);
            default: return BAD;
        }
    }

    // ---- what the calls share

    private static boolean within(int v, int least, int most) {
        return v >= least && v <= most;
    }

    private static int bounded(int v, int most) {
        return Math.max(0, Math.min(most, v));
    }

    private static boolean isWeekday(int d) {
        return within(d, 0, WEEK - 1);
    }

    private static boolean isAhead(int n) {
        return within(n, 0, DAYS_AHEAD);
    }

    private static boolean isSheet(int k) {
        return within(k, 0, SHEETS - 1);
    }

    private static int replace(int[] row, int at, int v) {
        int was = row[at];
        row[at] = v;
        return was;
    }

    private static int sumOf(int[] row, int length) {
        int sum = 0;
        for (int k = 0; k < length && k < row.length; k++) {
            sum += row[k];
        }
        return sum;
    }

    private Terrace copyOfNow() {
        trial.copyFrom(now);
        return trial;
    }

    private static int sorrowBehind(Terrace then, int n) {
        then.passDays(n);
        return then.sorrow;
    }

    private static boolean losesNoneOf(Terrace then, int h, int n) {
        int toKeep = then.thingsOf(h) & ~then.gone;
        for (int d = 0; d < n; d++) {
            then.passDays(1);
            // What is lost stays lost, so the days behind it need not be run.
            if ((then.gone & toKeep) != 0) {
                return false;
            }
        }
        return true;
    }

    private int bestOrSorrow(int best, int least, int what) {
        return best == NONE || what == 0 ? best : least - now.sorrow;
    }

    private int dearestSet(int h) {
        int open = now.thingsOf(h) & ~now.gone;
        int best = 0;
        int most = 0;
        for (int set = 1; set < 1 << THINGS_MOST; set++) {
            if ((set & ~open) == 0 && now.fillOfSet(set) <= now.room[h]) {
                int cost = now.costOfSet(set);
                if (cost > most) {
                    most = cost;
                    best = set;
                }
            }
        }
        return best;
    }

    private static long power(int base, int exponent) {
        long product = 1;
        for (int k = 0; k < exponent; k++) {
            product *= base;
        }
        return product;
    }

    // How many of 10 to the n cases have storms on just these days.
    private static long weightOf(int storms, int v, int n) {
        int stormy = Integer.bitCount(storms);
        return power(v, stormy) * power(ODDS - v, n - stormy);
    }

    private Terrace behindStorms(int storms, int n) {
        Terrace then = copyOfNow();
        for (int d = 0; d < n; d++) {
            int more = (storms >> d & 1) * STORM_MORE;
            then.passDay(then.riseToday() + more, then.wind);
        }
        return then;
    }

    private static long commonDivisor(long a, long b) {
        long greater = a;
        long lesser = b;
        // Euclid's remainders of longs are 0 behind fewer than 100 steps.
        for (int k = 0; k < 100 && lesser != 0; k++) {
            long rest = greater % lesser;
            greater = lesser;
            lesser = rest;
        }
        return greater;
    }

    private static long fractionPart(long numerator, long denominator, int what) {
        long common = commonDivisor(numerator, denominator);
        if (common == 0) {
            return 0;
        }
        return (what == 0 ? numerator : denominator) / common;
    }

    private void tellRooms(int h, int last) {
        futures.empty();
        for (int r = 0; r < ROOMS_TOLD; r++) {
            Terrace then = copyOfNow();
            then.room[h] = r;
            futures.addRow(then, last);
        }
    }

    /** All that an image holds: houses, things, rises, wind, level, day, sorrow. */
    private static final class Terrace {
        private static final int OUT = 0, IN = 1, LOST = 2;

        int houses;
        final int[] height = new int[HOUSES_MOST];
        final int[] room = new int[HOUSES_MOST];
        final int[] leakOf = new int[HOUSES_MOST];
        final int[] place = new int[HOUSES_MOST];
        int afloat;
        int things;
        final int[] kindOf = new int[THINGS_MOST];
        final int[] homeOf = new int[THINGS_MOST];
        final int[] sizeOf = new int[THINGS_MOST];
        final int[] worthOf = new int[THINGS_MOST];
        int stowed;
        int gone;
        final int[] rises = new int[WEEK];
        int wind;
        int level;
        int day;
        int sorrow;

        Terrace() {
            Arrays.fill(rises, CALM);
            wind = CALM;
        }

        void clear() {
            houses = 0;
            things = 0;
            afloat = 0;
            stowed = 0;
            gone = 0;
            Arrays.fill(rises, CALM);
            wind = CALM;
            level = 0;
            day = 0;
            sorrow = 0;
        }

        void copyFrom(Terrace other) {
            houses = other.houses;
            things = other.things;
            afloat = other.afloat;
            stowed = other.stowed;
            gone = other.gone;
            wind = other.wind;
            level = other.level;
            day = other.day;
            sorrow = other.sorrow;
            copyRow(other.height, height);
            copyRow(other.room, room);
            copyRow(other.leakOf, leakOf);
            copyRow(other.place, place);
            copyRow(other.kindOf, kindOf);
            copyRow(other.homeOf, homeOf);
            copyRow(other.sizeOf, sizeOf);
            copyRow(other.worthOf, worthOf);
            copyRow(other.rises, rises);
        }

        private static void copyRow(int[] from, int[] to) {
            System.arraycopy(from, 0, to, 0, Math.min(from.length, to.length));
        }

        void addHouse(int heightTold, int roomTold, int leakTold) {
            if (houses < HOUSES_MOST) {
                height[houses] = heightTold;
                room[houses] = roomTold;
                leakOf[houses] = leakTold;
                place[houses] = MIDDLE;
                houses++;
            }
        }

        void addThing(int kindTold, int homeTold, int sizeTold, int worthTold) {
            if (things < THINGS_MOST) {
                kindOf[things] = kindTold;
                homeOf[things] = homeTold;
                sizeOf[things] = sizeTold;
                worthOf[things] = worthTold;
                things++;
            }
        }

        boolean isHouse(int h) {
            return within(h, 0, houses - 1);
        }

        boolean isThing(int i) {
            return within(i, 0, things - 1);
        }

        boolean hasHomes() {
            for (int i = 0; i < things; i++) {
                if (!isHouse(homeOf[i])) {
                    return false;
                }
            }
            return true;
        }

        int[] houseRow(int what) {
            switch (what) {
                case 0: return height;
                case 1: return room;
                case 2: return leakOf;
                default: return place;
            }
        }

        int[] thingRow(int what) {
            switch (what) {
                case 0: return kindOf;
                case 1: return sizeOf;
                default: return worthOf;
            }
        }

        boolean isAfloat(int h) {
            return (afloat >> h & 1) != 0;
        }

        boolean isIn(int i) {
            return (stowed >> i & 1) != 0;
        }

        boolean isGone(int i) {
            return (gone >> i & 1) != 0;
        }

        int whereIs(int i) {
            if (isGone(i)) {
                return LOST;
            }
            return isIn(i) ? IN : OUT;
        }

        int fillOf(int i) {
            int size = sizeOf[i];
            int half = (size + 1) / 2;
            switch (kindOf[i]) {
                case 1: return 2 * size;
                case 2: return half;
                case 3: return half + 1;
                default: return size;
            }
        }

        int costOf(int i) {
            int worth = worthOf[i];
            switch (kindOf[i]) {
                case 2: return 3 * worth;
                case 3: return 3 * worth + 1;
                default: return worth;
            }
        }

        int thingsOf(int h) {
            int bits = 0;
            for (int i = 0; i < things; i++) {
                bits |= homeOf[i] == h ? 1 << i : 0;
            }
            return bits;
        }

        int fillOfSet(int set) {
            int sum = 0;
            for (int i = 0; i < things; i++) {
                sum += (set >> i & 1) != 0 ? fillOf(i) : 0;
            }
            return sum;
        }

        int costOfSet(int set) {
            int sum = 0;
            for (int i = 0; i < things; i++) {
                sum += (set >> i & 1) != 0 ? costOf(i) : 0;
            }
            return sum;
        }

        int filledOf(int h) {
            int sum = 0;
            for (int i = 0; i < things; i++) {
                sum += homeOf[i] == h && isIn(i) ? fillOf(i) : 0;
            }
            return sum;
        }

        int putIn(int i) {
            if (!isThing(i)) {
                return BAD;
            }
            int h = homeOf[i];
            if (whereIs(i) != OUT || isAfloat(h)) {
                return STATE;
            }
            int left = room[h] - filledOf(h) - fillOf(i);
            if (left < 0) {
                return FULL;
            }
            stowed |= 1 << i;
            return left;
        }

        int takeOut(int i) {
            if (!isThing(i)) {
                return BAD;
            }
            int h = homeOf[i];
            if (!isIn(i) || isAfloat(h)) {
                return STATE;
            }
            stowed &= ~(1 << i);
            return Math.max(0, room[h] - filledOf(h));
        }

        boolean mayChangeHomes(int i, int j) {
            return !isGone(i) && !isGone(j) && homeOf[i] != homeOf[j];
        }

        void changeHomes(int i, int j) {
            int home = homeOf[i];
            homeOf[i] = homeOf[j];
            homeOf[j] = home;
        }

        int riseToday() {
            return rises[Math.floorMod(day, WEEK)];
        }

        void passDays(int n) {
            for (int d = 0; d < n; d++) {
                passDay(riseToday(), wind);
            }
        }

        void passDay(int riseThen, int windThen) {
            level = bounded(level + riseThen - CALM, LEVEL_MOST);
            for (int h = 0; h < houses; h++) {
                passHouse(h, windThen);
            }
            day++;
        }

        private void passHouse(int h, int windThen) {
            if (level <= height[h]) {
                afloat &= ~(1 << h);
                return;
            }
            if (!isAfloat(h)) {
                loseWhatIsOut(h);
                afloat |= 1 << h;
            }
            room[h] = Math.max(0, room[h] - leakOf[h]);
            loseWhatIsOver(h);
            place[h] = bounded(place[h] + windThen - CALM, PLACE_MOST);
        }

        private void loseWhatIsOut(int h) {
            for (int i = 0; i < things; i++) {
                if (homeOf[i] == h && whereIs(i) == OUT) {
                    loseThing(i);
                }
            }
        }

        private void loseWhatIsOver(int h) {
            int filled = filledOf(h);
            for (int i = things - 1; i >= 0 && filled > room[h]; i--) {
                if (homeOf[i] == h && isIn(i)) {
                    filled -= fillOf(i);
                    loseThing(i);
                }
            }
        }

        private void loseThing(int i) {
            stowed &= ~(1 << i);
            gone |= 1 << i;
            sorrow = Math.min(SORROW_MOST, sorrow + costOf(i));
        }
    }

    /** The bytes that were fed and not yet told. */
    private static final class Tape {
        private static final int BYTES_MOST = 160;

        final byte[] bytes = new byte[BYTES_MOST];
        int length;

        boolean addByte(int c) {
            if (length >= BYTES_MOST) {
                return false;
            }
            bytes[length] = (byte) c;
            length++;
            return true;
        }
    }

    /** Reads its tape by tokens into its draft, as far as the first fault. */
    private static final class Reader {
        private static final int THE_END = 0, NAME = 1, NUMBER = 2, SIGN = 3;
        private static final int FIGURES_MOST = 2;
        private static final int NO_TOKEN = 1, OUT_OF_PLACE = 2, OUT_OF_BOUNDS = 3;
        private static final int TOLD_TWICE = 4, TOO_MANY = 5, NO_SUCH_HOUSE = 6;
        private static final int NO_WORD = -1, PLAIN = 0, HOUSE = 4, RISE = 5, WIND = 6, LEVEL = 7, WORDS = 8;
        private static final int[] HOUSE_LEAST = {0, 0, 0};
        private static final int[] THING_LINE_LEAST = {0, SIZE_LEAST, 0};
        private static final int[] THING_LINE_MOST = {HOUSES_MOST - 1, SIZE_MOST, WORTH_MOST};
        private static final int[] HOUSE_LINE_MOST = {HEIGHT_MOST, ROOM_MOST, LEAK_MOST};
        private static final int[] RISE_LINE_MOST = {WEEK - 1, RISE_MOST};
        private static final int[] WIND_LINE_MOST = {WIND_MOST};
        private static final int[] LEVEL_LINE_MOST = {LEVEL_MOST};

        final Tape tape = new Tape();
        final Terrace draft = new Terrace();
        private final int[] numbers = new int[3];
        private int at;
        private int token;
        private int tokenFrom;
        private int tokenValue;
        private boolean windTold;
        private boolean levelTold;
        private int daysTold;
        int faultFound;
        int faultPlace;

        int readLines() {
            draft.clear();
            at = 0;
            windTold = false;
            levelTold = false;
            daysTold = 0;
            faultFound = NO_FAULT;
            faultPlace = 0;
            int lines = 0;
            // A line has bytes of its own, so there are no more lines than bytes.
            while (lines <= tape.length && takeToken() && token != THE_END && takeLine()) {
                lines++;
            }
            if (faultFound == NO_FAULT && !draft.hasHomes()) {
                refuse(NO_SUCH_HOUSE, tape.length);
            }
            return lines;
        }

        private boolean refuse(int found, int place) {
            faultFound = found;
            faultPlace = place;
            return false;
        }

        private boolean takeLine() {
            int word = token == NAME ? wordHere() : NO_WORD;
            if (word == NO_WORD) {
                return refuse(OUT_OF_PLACE, tokenFrom);
            }
            if (!mayBegin(word) || !takeNumbers(word) || !takeToken()) {
                return false;
            }
            if (token != SIGN) {
                return refuse(OUT_OF_PLACE, tokenFrom);
            }
            tellLine(word);
            return true;
        }

        private boolean mayBegin(int word) {
            if (word == WIND && windTold || word == LEVEL && levelTold) {
                return refuse(TOLD_TWICE, tokenFrom);
            }
            if (word == HOUSE && draft.houses >= HOUSES_MOST || word < HOUSE && draft.things >= THINGS_MOST) {
                return refuse(TOO_MANY, tokenFrom);
            }
            return true;
        }

        private boolean takeNumbers(int word) {
            int[] least = word < HOUSE ? THING_LINE_LEAST : HOUSE_LEAST;
            int[] most = mostOf(word);
            for (int k = 0; k < most.length && k < numbers.length; k++) {
                if (!takeToken()) {
                    return false;
                }
                if (token != NUMBER) {
                    return refuse(OUT_OF_PLACE, tokenFrom);
                }
                if (!within(tokenValue, least[k], most[k])) {
                    return refuse(OUT_OF_BOUNDS, tokenFrom);
                }
                if (word == RISE && k == 0 && (daysTold >> tokenValue & 1) != 0) {
                    return refuse(TOLD_TWICE, tokenFrom);
                }
                numbers[k] = tokenValue;
            }
            return true;
        }

        private static int[] mostOf(int word) {
            switch (word) {
                case HOUSE: return HOUSE_LINE_MOST;
                case RISE: return RISE_LINE_MOST;
                case WIND: return WIND_LINE_MOST;
                case LEVEL: return LEVEL_LINE_MOST;
                default: return THING_LINE_MOST;
            }
        }

        private void tellLine(int word) {
            switch (word) {
                case HOUSE:
                    draft.addHouse(numbers[0], numbers[1], numbers[2]);
                    break;
                case RISE:
                    draft.rises[numbers[0]] = numbers[1];
                    daysTold |= 1 << numbers[0];
                    break;
                case WIND:
                    draft.wind = numbers[0];
                    windTold = true;
                    break;
                case LEVEL:
                    draft.level = numbers[0];
                    levelTold = true;
                    break;
                default:
                    draft.addThing(word, numbers[0], numbers[1], numbers[2]);
                    break;
            }
        }

        private boolean takeToken() {
            while (at < tape.length && tape.bytes[at] == ' ') {
                at++;
            }
            tokenFrom = at;
            if (at >= tape.length) {
                token = THE_END;
                return true;
            }
            int c = tape.bytes[at];
            if (isLetter(c)) {
                token = NAME;
                passLetters();
                return true;
            }
            if (isFigure(c)) {
                token = NUMBER;
                return takeFigures();
            }
            token = SIGN;
            at++;
            return c == ';' || refuse(NO_TOKEN, tokenFrom);
        }

        private void passLetters() {
            while (at < tape.length && isLetter(tape.bytes[at])) {
                at++;
            }
        }

        private boolean takeFigures() {
            tokenValue = 0;
            while (at < tape.length && isFigure(tape.bytes[at])) {
                if (at - tokenFrom >= FIGURES_MOST) {
                    return refuse(NO_TOKEN, tokenFrom);
                }
                tokenValue = tokenValue * 10 + tape.bytes[at] - '0';
                at++;
            }
            return true;
        }

        private static boolean isLetter(int c) {
            return within(c, 'a', 'z');
        }

        private static boolean isFigure(int c) {
            return within(c, '0', '9');
        }

        private int wordHere() {
            for (int word = PLAIN; word < WORDS; word++) {
                if (isSpelled(spellingOf(word))) {
                    return word;
                }
            }
            return NO_WORD;
        }

        // The words of things stand first, so that each is the number of its kind.
        private static String spellingOf(int word) {
            switch (word) {
                case PLAIN: return "plain";
                case 1: return "piano";
                case 2: return "father";
                case 3: return "self";
                case HOUSE: return "house";
                case RISE: return "rise";
                case WIND: return "wind";
                default: return "level";
            }
        }

        private boolean isSpelled(String spelling) {
            if (spelling.length() != at - tokenFrom) {
                return false;
            }
            for (int k = 0; k < spelling.length(); k++) {
                if (spelling.charAt(k) != tape.bytes[tokenFrom + k]) {
                    return false;
                }
            }
            return true;
        }
    }

    /** What was seen: behind how many days there was how much sorrow. */
    private static final class Sightings {
        final int[] behind = new int[SEEN_MOST];
        final int[] sorrows = new int[SEEN_MOST];
        int size;

        boolean addSighting(int n, int v) {
            if (size >= SEEN_MOST) {
                return false;
            }
            behind[size] = n;
            sorrows[size] = v;
            size++;
            return true;
        }

        int latestDay() {
            int latest = 0;
            for (int k = 0; k < size; k++) {
                latest = Math.max(latest, behind[k]);
            }
            return latest;
        }

        int rowsAsSeen(Futures futures) {
            int bits = 0;
            for (int row = 0; row < futures.rows; row++) {
                bits |= agreeWith(futures, row) ? 1 << row : 0;
            }
            return bits;
        }

        private boolean agreeWith(Futures futures, int row) {
            for (int k = 0; k < size; k++) {
                if (futures.sorrowOf(row, behind[k]) != sorrows[k]) {
                    return false;
                }
            }
            return true;
        }
    }

    /** Rows of sorrow by days, one for each way that it may have been. */
    private static final class Futures {
        private static final int WIDTH = SEEN_DAYS + 1;

        private final int[] sorrows = new int[ROOMS_TOLD * WIDTH];
        int rows;

        void empty() {
            rows = 0;
        }

        // Only the days up to the last are run; those behind it are not asked of.
        void addRow(Terrace then, int last) {
            if (rows >= ROOMS_TOLD) {
                return;
            }
            for (int d = 0; d <= last && d < WIDTH; d++) {
                sorrows[rows * WIDTH + d] = then.sorrow;
                then.passDay(then.riseToday(), then.wind);
            }
            rows++;
        }

        int sorrowOf(int row, int d) {
            return sorrows[row * WIDTH + d];
        }

        int leftAtWorst(int open, int d) {
            int worst = 0;
            for (int row = 0; row < rows; row++) {
                worst = Math.max(worst, alikeFrom(row, open, d));
            }
            return worst;
        }

        // The first row of those alike counts them all, so those ahead need no look.
        private int alikeFrom(int row, int open, int d) {
            int alike = 0;
            for (int other = row; other < rows; other++) {
                boolean counts = (open >> other & 1) != 0 && sorrowOf(other, d) == sorrowOf(row, d);
                alike += counts ? 1 : 0;
            }
            return alike;
        }
    }

    /** A row of cells of one lane, or nothing. */
    private static final class Sheet {
        final int[] cells = new int[CELLS_MOST];
        boolean made;
        int lane;
        int size;

        void renew(int laneThen, int n) {
            made = true;
            lane = laneThen;
            size = n;
            Arrays.fill(cells, 0);
        }

        int faultAt(int laneTaken, int i) {
            if (!made) {
                return NULL_FAULT;
            }
            if (laneTaken != lane) {
                return CAST_FAULT;
            }
            return within(i, 0, size - 1) ? NO_FAULT : INDEX_FAULT;
        }

        int lowestBits(int v) {
            switch (lane) {
                case 0: return (byte) v;
                case 1: return (short) v;
                default: return v;
            }
        }
    }
}
