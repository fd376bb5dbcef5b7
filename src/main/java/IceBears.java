/**
 * A pond of sixteen cells under winters told as texts: how thick its ice is where,
 * whom it bears, and what would be so some hours on. No call throws; what a call
 * cannot do it answers with a number below 0.
 */
public final class IceBears {
    public static final int NONE = -1, BAD = -2, STATE = -3, FULL = -4;
    public static final long NO = Long.MIN_VALUE;

    private static final int NEVER = -5;
    private static final int NOTHING = -11, CAST = -12, NO_PLACE = -13, NO_SIZE = -14;
    private static final int NONE_OF_COLD = -1001, BAD_OF_COLD = -1002;

    private static final int CELLS = 16, WIDTH = 4, SHORE_BITS = 0x000F;
    private static final int ALL_BITS = 0xFFFF, LEFT_BITS = 0x1111, RIGHT_BITS = 0x8888;
    private static final int MOST_ICE = 999, MOST_SNOW = 99, MOST_CHILDREN = 9;

    private static final int MOST_WINTERS = 5, MOST_CLAUSES = 10, MOST_TEXT = 100, MOST_NESTED = 4;
    private static final int HOURS_OF_DAY = 24, DAYS_COUNTED = 100, DAYS_TOLD = 10;
    private static final int LAST_HOUR = 9999, LONG_TIME = 240, SHORT_TIME = 99;
    private static final int LAMP_HEAT = 3;

    private static final int MOST_HOLES = 10, MOST_THICK_TOLD = 1499, BLOW = 15;
    private static final int ODDS_DAYS = 4, ODDS_OF = 10, ALL_ODDS = 10000, SURE_TIME = 96;

    private static final int KINDS = 7, MOST_VALUE = 9;
    private static final int CLEAN = 1, WHITENING = 2, SPRUNG = 3, SUNNED = 4, SHADED = 5, KEPT = 6;
    private static final int[] KIND_ABOVE = {-1, 0, 0, 0, 0, 2, 3};

    private static final int TAPES = 6, MOST_ITEMS = 60;
    private static final int BYTES = 0, SHORTS = 1, INTS = 2, LONGS = 3, BOOLEANS = 4, NO_SORT = -1;

    private final Pond now = new Pond();
    private final Pond kept = new Pond();
    private boolean isKept = false;

    private final byte[] text = new byte[MOST_TEXT];
    private int textLength = 0;
    private final Winter noWinter = new Winter();
    private final Winter[] winters = new Winter[MOST_WINTERS];
    private int winterCount = 0;

    private final Tape[] tapes = new Tape[TAPES];
    private final Acts acts = new Acts();

    // Questions are worked out on these, so that a call makes no new rows.
    private final Ice asked = new Ice();
    private final Ice askedToo = new Ice();
    private final int[] supposed = new int[CELLS];
    private final int[] loads = new int[CELLS];

    public IceBears() {
        for (int i = 0; i < MOST_WINTERS; i++) winters[i] = new Winter();
        for (int i = 0; i < TAPES; i++) tapes[i] = new Tape();
    }

    // ---- cells, winters

    public int lay(int cell, int clear, int white, int snow) {
        if (!isCell(cell)) return NONE;
        if (!isWithin(clear, 0, MOST_ICE) || !isWithin(white, 0, MOST_ICE)) return BAD;
        if (!isWithin(snow, 0, MOST_SNOW)) return BAD;
        int before = now.ice.thick(cell);
        now.ice.clear[cell] = clear;
        now.ice.white[cell] = white;
        now.ice.snow[cell] = snow;
        return before;
    }

    public int of(int cell, int what) {
        if (!isCell(cell)) return NONE;
        switch (what) {
            case 0: return now.ice.clear[cell];
            case 1: return now.ice.white[cell];
            case 2: return now.ice.snow[cell];
            case 3: return now.ice.thick(cell);
            case 4: return loadOf(now.children, cell);
            case 5: return bears(now.ice.thick(cell), loadOf(now.children, cell)) ? 1 : 0;
            case 6: return now.children[cell];
            default: return NONE;
        }
    }

    public int children(int cell, int n) {
        if (!isCell(cell)) return NONE;
        if (!isWithin(n, 0, MOST_CHILDREN)) return BAD;
        int before = now.children[cell];
        now.children[cell] = n;
        return before;
    }

    public int fall() {
        return fallingOf(now.children);
    }

    public int feed(int bytes, int n) {
        if (!isWithin(n, 0, 4)) return BAD;
        if (textLength + n > MOST_TEXT) return FULL;
        for (int i = n - 1; i >= 0; i--) {
            text[textLength] = (byte) (bytes >>> 8 * i);
            textLength++;
        }
        return textLength;
    }

    public int winter() {
        if (winterCount >= MOST_WINTERS) return FULL;
        Reader reader = new Reader(text, textLength, winters[winterCount]);
        boolean isRead = reader.takeWinter();
        textLength = 0;
        if (!isRead) return -10 - reader.place;
        now.holds = winterCount;
        winterCount++;
        return now.holds;
    }

    public int told(int hour, int what) {
        if (!isWithin(what, 0, 2)) return NONE_OF_COLD;
        if (!isWithin(hour, 0, 999)) return BAD_OF_COLD;
        Winter winter = holding();
        if (what == 0) return winter.frost(hour, isWarm(hour));
        if (what == 1) return winter.falls(hour, isWarm(hour));
        return winter.bearing();
    }

    public int warm(int day, boolean is) {
        if (!isWithin(day, 0, DAYS_TOLD - 1)) return NONE;
        int before = now.warmDays >> day & 1;
        if (is) now.warmDays |= 1 << day;
        else now.warmDays &= ~(1 << day);
        return before;
    }

    public int place(int cell, int kind, int v) {
        if (!isCell(cell) || !isKind(kind)) return NONE;
        if (!isWithin(v, 0, MOST_VALUE)) return BAD;
        int before = now.kinds[cell];
        now.kinds[cell] = kind;
        now.values[cell] = v;
        return before;
    }

    // ---- hours

    public int cold(int cell) {
        if (!isCell(cell)) return NONE_OF_COLD;
        return now.coldOf(cell, now.hour, holding().frost(now.hour, isWarm(now.hour)));
    }

    public int go(int n) {
        if (!isWithin(n, 1, LONG_TIME)) return BAD;
        if (now.hour + n > LAST_HOUR) return STATE;
        passHours(now.ice, n, 0);
        now.hour += n;
        return now.hour;
    }

    public int when(int k) {
        if (!isWithin(k, 1, MOST_CHILDREN)) return BAD;
        for (int cell = 0; cell < CELLS; cell++) supposed[cell] = k;
        fillLoads(supposed);
        asked.copyFrom(now.ice);
        for (int hours = 0; hours <= LONG_TIME; hours++) {
            if (everyCellBears(asked)) return hours;
            int hour = now.hour + hours;
            passHour(asked, holding(), hour, isWarm(hour), 0);
        }
        return NEVER;
    }

    public int thin(int n, int what) {
        if (!isWithin(what, 0, 2)) return NONE;
        if (!isWithin(n, 0, SHORT_TIME)) return BAD;
        asked.copyFrom(now.ice);
        passHours(asked, n, 0);
        int thinnest = 0;
        int thickest = 0;
        for (int cell = 1; cell < CELLS; cell++) {
            if (asked.thick(cell) < asked.thick(thinnest)) thinnest = cell;
            if (asked.thick(cell) > asked.thick(thickest)) thickest = cell;
        }
        if (what == 0) return thinnest;
        if (what == 1) return asked.thick(thinnest);
        int halves = 0;
        for (int cell = 0; cell < CELLS; cell++) {
            if (2 * asked.thick(cell) <= asked.thick(thickest)) halves++;
        }
        return halves;
    }

    public int reach(int cell) {
        if (!isCell(cell)) return NONE;
        int bit = 1 << cell;
        if ((bit & SHORE_BITS) != 0) return 0;
        int open = bearingOneMore() & ~bit;
        int goals = nearOf(bit);
        int reached = open & SHORE_BITS;
        for (int cells = 1; cells <= CELLS; cells++) {
            if ((reached & goals) != 0) return cells;
            reached |= open & nearOf(reached);
        }
        return NEVER;
    }

    // ---- sweeping, boards, ropes

    public int sweep(int n, int what) {
        if (!isWithin(what, 0, 1)) return NONE;
        if (!isWithin(n, 1, SHORT_TIME)) return BAD;
        asked.copyFrom(now.ice);
        askedToo.copyFrom(now.ice);
        // No cell's ice hangs on another's, so all can be swept at once and still be told apart.
        for (int cell = 0; cell < CELLS; cell++) askedToo.snow[cell] = 0;
        passHours(asked, n, 0);
        passHours(askedToo, n, 0);
        int best = 0;
        int most = askedToo.thick(0) - asked.thick(0);
        for (int cell = 1; cell < CELLS; cell++) {
            int more = askedToo.thick(cell) - asked.thick(cell);
            if (more > most) {
                best = cell;
                most = more;
            }
        }
        return what == 0 ? best : most;
    }

    public int lamp(int n) {
        if (!isWithin(n, 1, SHORT_TIME)) return BAD;
        asked.copyFrom(now.ice);
        askedToo.copyFrom(now.ice);
        passHours(asked, n, 0);
        passHours(askedToo, n, LAMP_HEAT);
        int best = 0;
        int least = thickWithLampAt(0);
        for (int cell = 1; cell < CELLS; cell++) {
            int left = thickWithLampAt(cell);
            if (left < least) {
                best = cell;
                least = left;
            }
        }
        return best;
    }

    public int board(int n, int s, int what) {
        if (!isWithin(what, 0, 2)) return NONE;
        if (!isWithin(n, 1, LONG_TIME) || !isWithin(s, 0, 999)) return BAD;
        Winter winter = holding();
        fillLoads(now.children);
        asked.copyFrom(now.ice);
        int sum = 0, green = 0, wrong = 0, best = 0;
        for (int hour = now.hour; hour < now.hour + n; hour++) {
            sum += winter.frost(hour, isWarm(hour));
            passHour(asked, winter, hour, isWarm(hour), 0);
            boolean isSafe = everyCellBears(asked);
            if (sum >= s) green++;
            if (sum >= s && !isSafe) wrong++;
            if (!isSafe) best = Math.max(best, sum + 1);
        }
        if (what == 0) return green;
        if (what == 1) return wrong;
        return best > 999 ? NEVER : best;
    }

    public int rope() {
        for (int column = WIDTH; column > 0; column--) {
            for (int cell = 0; cell < CELLS; cell++) {
                supposed[cell] = cell % WIDTH < column ? now.children[cell] : 0;
            }
            if (fallingOf(supposed) == 0) return column;
        }
        return 0;
    }

    // ---- holes, odds

    public int hole(int cell, int hour, int thick) {
        if (!isCell(cell)) return NONE;
        if (!isWithin(hour, 0, LONG_TIME - 1) || !isWithin(thick, 0, MOST_THICK_TOLD)) return BAD;
        if (now.holes >= MOST_HOLES) return FULL;
        now.holeCells[now.holes] = cell;
        now.holeHours[now.holes] = hour;
        now.holeThick[now.holes] = thick;
        now.holes++;
        return now.holes;
    }

    public int off(int winter) {
        if (!isWithin(winter, 0, winterCount - 1)) return NONE;
        return offOf(winters[winter]);
    }

    public int likely() {
        int best = NEVER;
        int least = Integer.MAX_VALUE;
        for (int i = 0; i < winterCount; i++) {
            int sum = offOf(winters[i]);
            if (sum < least) {
                best = i;
                least = sum;
            }
        }
        return best;
    }

    public int blows(int n) {
        if (!isWithin(n, 0, 99)) return BAD;
        int cells = 0;
        for (int cell = 0; cell < CELLS; cell++) {
            if ((now.ice.thick(cell) + BLOW - 1) / BLOW == n) cells |= 1 << cell;
        }
        return cells;
    }

    public int odds(int k, int n) {
        if (!isWithin(k, 0, ODDS_DAYS - 1)) return NONE;
        if (!isWithin(n, 0, ODDS_OF)) return BAD;
        int before = now.odds[k];
        now.odds[k] = n;
        return before;
    }

    public long sure(int n, int part) {
        if (!isWithin(n, 1, SURE_TIME) || !isWithin(part, 0, 1)) return NO;
        fillLoads(now.children);
        int above = 0;
        for (int guess = 0; guess < 1 << ODDS_DAYS; guess++) {
            int weight = weightOf(guess);
            if (weight > 0 && everyCellBearsBehind(n, guess)) above += weight;
        }
        int divisor = commonDivisor(ALL_ODDS, above);
        return (part == 0 ? above : ALL_ODDS) / Math.max(1, divisor);
    }

    // ---- judging, the image, acts, tapes

    public int judge(int tape, int i) {
        if (!isTape(tape)) return NONE;
        Tape row = tapes[tape];
        if (row.sort != NO_SORT && row.sort != LONGS) return CAST;
        if (i < 0) return 100;
        for (int cell = 0; cell < CELLS; cell++) {
            // Less than the length less the cell, as i and the cell together could wrap.
            if (i >= row.length - cell) return 100 + cell;
            if (row.items[i + cell] != now.ice.thick(cell)) return cell;
        }
        return NEVER;
    }

    public int image() {
        kept.copyFrom(now);
        isKept = true;
        return now.hour;
    }

    public int undo() {
        if (!isKept) return STATE;
        now.copyFrom(kept);
        return now.hour;
    }

    public int act(int cell, int act, int x) {
        acts.forget();
        if (!isCell(cell) || !isWithin(act, 0, Acts.ACTS - 1)) return 0;
        return acts.start(act, cell, now.kinds[cell], now.values[cell], x);
    }

    public int trace(int i) {
        if (!isWithin(i, 0, Math.min(acts.ran, Acts.MOST_NOTED) - 1)) return NONE;
        return acts.noted[i];
    }

    public int taken(int cell, int k) {
        if (!isKind(k)) return BAD;
        if (!isCell(cell)) return NOTHING;
        return isUnder(now.kinds[cell], k) ? now.kinds[cell] : CAST;
    }

    public int count(int what) {
        switch (what) {
            case 0: return winterCount;
            case 1: return now.holes;
            case 2: return textLength;
            case 3: return now.hour;
            case 4: return acts.ran;
            case 5: return childrenInAll();
            default: return BAD;
        }
    }

    public int tape(int tape, int sort, int n) {
        if (!isTape(tape)) return NONE;
        if (sort == NO_SORT) {
            tapes[tape].become(NO_SORT, 0);
            return 1;
        }
        if (!isWithin(sort, BYTES, BOOLEANS) || n > MOST_ITEMS) return BAD;
        if (n < 0) return NO_SIZE;
        tapes[tape].become(sort, n);
        return 1;
    }

    public int item(int tape, int i, long v) {
        if (!isTape(tape)) return NONE;
        Tape row = tapes[tape];
        if (row.sort == NO_SORT) return NOTHING;
        if (!isWithin(i, 0, row.length - 1)) return NO_PLACE;
        row.items[i] = row.fitting(v);
        return 1;
    }

    public long read(int tape, int i) {
        if (!isTape(tape)) return NO;
        Tape row = tapes[tape];
        if (!isWithin(i, 0, row.length - 1)) return NO;
        return row.items[i];
    }

    public int shift(int tape, int i, int other, int j, int n) {
        if (!isTape(tape) || !isTape(other)) return NONE;
        Tape from = tapes[tape];
        Tape to = tapes[other];
        if (from.sort == NO_SORT || to.sort == NO_SORT) return NOTHING;
        if (from.sort != to.sort) return CAST;
        if (!from.hasPart(i, n) || !to.hasPart(j, n)) return NO_PLACE;
        System.arraycopy(from.items, i, to.items, j, n);
        return n;
    }

    // ---- numbers and cells

    private static boolean isWithin(int number, int least, int most) {
        return number >= least && number <= most;
    }

    private static boolean isCell(int cell) {
        return cell >= 0 && cell < CELLS;
    }

    private static boolean isTape(int tape) {
        return tape >= 0 && tape < TAPES;
    }

    private static boolean isKind(int kind) {
        return kind >= 0 && kind < KINDS;
    }

    private static boolean isUnder(int kind, int wanted) {
        int above = kind;
        for (int step = 0; step < KINDS && isKind(above); step++) {
            if (above == wanted) return true;
            above = KIND_ABOVE[above];
        }
        return false;
    }

    private static int commonDivisor(int one, int other) {
        int larger = one;
        int smaller = other;
        // Two steps halve the numbers at least: 64 are enough for any two ints.
        for (int step = 0; step < 64 && smaller != 0; step++) {
            int rest = larger % smaller;
            larger = smaller;
            smaller = rest;
        }
        return larger;
    }

    private static int nearOf(int cells) {
        int across = (cells & ~RIGHT_BITS) << 1 | (cells & ~LEFT_BITS) >>> 1;
        int along = cells << WIDTH | cells >>> WIDTH;
        return (across | along) & ALL_BITS;
    }

    // ---- loads

    private static int loadOf(int[] children, int cell) {
        int near = nearOf(1 << cell);
        int load = 2 * children[cell];
        for (int other = 0; other < CELLS; other++) {
            if ((near >> other & 1) == 1) load += children[other];
        }
        return load;
    }

    private void fillLoads(int[] children) {
        for (int cell = 0; cell < CELLS; cell++) loads[cell] = loadOf(children, cell);
    }

    private boolean bears(int thick, int load) {
        if (load == 0) return true;
        return thick > 0 && thick * thick / Math.max(1, holding().bearing()) >= load;
    }

    private boolean everyCellBears(Ice ice) {
        for (int cell = 0; cell < CELLS; cell++) {
            if (!bears(ice.thick(cell), loads[cell])) return false;
        }
        return true;
    }

    private int fallingOf(int[] children) {
        int cells = 0;
        for (int cell = 0; cell < CELLS; cell++) {
            boolean isBorne = bears(now.ice.thick(cell), loadOf(children, cell));
            if (children[cell] > 0 && !isBorne) cells |= 1 << cell;
        }
        return cells;
    }

    private int bearingOneMore() {
        int cells = 0;
        for (int cell = 0; cell < CELLS; cell++) {
            int load = loadOf(now.children, cell) + 2;
            if (bears(now.ice.thick(cell), load)) cells |= 1 << cell;
        }
        return cells;
    }

    private int childrenInAll() {
        int sum = 0;
        for (int cell = 0; cell < CELLS; cell++) sum += now.children[cell];
        return sum;
    }

    // ---- hours that go by

    private Winter holding() {
        return isWithin(now.holds, 0, MOST_WINTERS - 1) ? winters[now.holds] : noWinter;
    }

    private boolean isWarm(int hour) {
        int day = hour / HOURS_OF_DAY % DAYS_COUNTED;
        return day < DAYS_TOLD && (now.warmDays >> day & 1) == 1;
    }

    private boolean isWarmGuessed(int hour, int guess) {
        int ahead = hour / HOURS_OF_DAY - now.hour / HOURS_OF_DAY;
        return ahead < ODDS_DAYS ? (guess >> ahead & 1) == 1 : isWarm(hour);
    }

    private void passHour(Ice ice, Winter winter, int hour, boolean isWarm, int heat) {
        int frost = winter.frost(hour, isWarm) - heat;
        int falls = winter.falls(hour, isWarm);
        for (int cell = 0; cell < CELLS; cell++) {
            ice.pass(cell, now.kinds[cell], now.values[cell], now.coldOf(cell, hour, frost), falls);
        }
    }

    private void passHours(Ice ice, int n, int heat) {
        for (int hour = now.hour; hour < now.hour + n; hour++) {
            passHour(ice, holding(), hour, isWarm(hour), heat);
        }
    }

    private int thickWithLampAt(int cell) {
        int lit = 1 << cell | nearOf(1 << cell);
        int sum = 0;
        for (int other = 0; other < CELLS; other++) {
            sum += (lit >> other & 1) == 1 ? askedToo.thick(other) : asked.thick(other);
        }
        return sum;
    }

    private int weightOf(int guess) {
        int weight = 1;
        for (int k = 0; k < ODDS_DAYS; k++) {
            weight *= (guess >> k & 1) == 1 ? now.odds[k] : ODDS_OF - now.odds[k];
        }
        return weight;
    }

    private boolean everyCellBearsBehind(int n, int guess) {
        asked.copyFrom(now.ice);
        for (int hour = now.hour; hour < now.hour + n; hour++) {
            passHour(asked, holding(), hour, isWarmGuessed(hour, guess), 0);
        }
        return everyCellBears(asked);
    }

    private int offOf(Winter winter) {
        int last = 0;
        for (int i = 0; i < now.holes; i++) last = Math.max(last, now.holeHours[i]);
        asked.vanish();
        int sum = offBehind(0);
        for (int hour = 0; hour < last; hour++) {
            passHour(asked, winter, hour, isWarm(hour), 0);
            sum += offBehind(hour + 1);
        }
        return sum;
    }

    private int offBehind(int hours) {
        int sum = 0;
        for (int i = 0; i < now.holes; i++) {
            if (now.holeHours[i] == hours) {
                sum += Math.abs(asked.thick(now.holeCells[i]) - now.holeThick[i]);
            }
        }
        return sum;
    }

    /** Clear ice, white ice and snow, by cells. */
    static final class Ice {
        final int[] clear = new int[CELLS];
        final int[] white = new int[CELLS];
        final int[] snow = new int[CELLS];

        void copyFrom(Ice other) {
            System.arraycopy(other.clear, 0, clear, 0, CELLS);
            System.arraycopy(other.white, 0, white, 0, CELLS);
            System.arraycopy(other.snow, 0, snow, 0, CELLS);
        }

        void vanish() {
            for (int cell = 0; cell < CELLS; cell++) vanishAt(cell);
        }

        int thick(int cell) {
            return clear[cell] + white[cell] / 2;
        }

        void pass(int cell, int kind, int value, int cold, int falls) {
            boolean isOpen = clear[cell] == 0 && white[cell] == 0;
            if (!isOpen) snow[cell] = Math.min(MOST_SNOW, snow[cell] + falls);
            if (cold > 0) {
                if (kind == WHITENING || kind == SHADED) whiten(cell);
                grow(cell, cold);
            }
            if (cold < 0) melt(cell, -cold);
            if (kind == CLEAN) snow[cell] = 0;
            if (kind == KEPT && cold < 2 * value) vanishAt(cell);
        }

        private void whiten(int cell) {
            if (snow[cell] == 0) return;
            snow[cell]--;
            white[cell] = Math.min(MOST_ICE, white[cell] + 1);
        }

        private void grow(int cell, int cold) {
            int cover = 20 + clear[cell] + white[cell] + 5 * snow[cell];
            clear[cell] = Math.min(MOST_ICE, clear[cell] + 20 * cold / Math.max(20, cover));
        }

        private void melt(int cell, int heat) {
            int ofSnow = Math.min(snow[cell], heat);
            int ofWhite = Math.min(white[cell], heat - ofSnow);
            int ofClear = Math.min(clear[cell], heat - ofSnow - ofWhite);
            snow[cell] -= ofSnow;
            white[cell] -= ofWhite;
            clear[cell] -= ofClear;
        }

        private void vanishAt(int cell) {
            clear[cell] = 0;
            white[cell] = 0;
            snow[cell] = 0;
        }
    }

    /** All that an image keeps. */
    static final class Pond {
        final Ice ice = new Ice();
        final int[] children = new int[CELLS];
        final int[] kinds = new int[CELLS];
        final int[] values = new int[CELLS];
        int hour = 0;
        int warmDays = 0;
        final int[] odds = new int[ODDS_DAYS];
        final int[] holeCells = new int[MOST_HOLES];
        final int[] holeHours = new int[MOST_HOLES];
        final int[] holeThick = new int[MOST_HOLES];
        int holes = 0;
        int holds = -1;

        void copyFrom(Pond other) {
            ice.copyFrom(other.ice);
            System.arraycopy(other.children, 0, children, 0, CELLS);
            System.arraycopy(other.kinds, 0, kinds, 0, CELLS);
            System.arraycopy(other.values, 0, values, 0, CELLS);
            hour = other.hour;
            warmDays = other.warmDays;
            System.arraycopy(other.odds, 0, odds, 0, ODDS_DAYS);
            System.arraycopy(other.holeCells, 0, holeCells, 0, MOST_HOLES);
            System.arraycopy(other.holeHours, 0, holeHours, 0, MOST_HOLES);
            System.arraycopy(other.holeThick, 0, holeThick, 0, MOST_HOLES);
            holes = other.holes;
            holds = other.holds;
        }

        int coldOf(int cell, int hour, int frost) {
            int hourOfDay = hour % HOURS_OF_DAY;
            boolean isNoon = hourOfDay >= 10 && hourOfDay <= 15;
            switch (kinds[cell]) {
                case SPRUNG:
                case KEPT: return frost - values[cell];
                case SUNNED: return isNoon ? frost - values[cell] : frost;
                case SHADED: return isNoon ? frost + values[cell] : frost;
                default: return frost;
            }
        }
    }

    /** The clauses of a winter; what must hold for one stands in code, parts ahead of what joins them. */
    static final class Winter {
        static final int FROST = 0, THAW = 1, SNOW = 2, BEARS = 3;
        static final int NOT = -1, AND = -2, OR = -3;
        static final int OF_LETTER = 300, OF_RELATION = 100;

        final int[] sorts = new int[MOST_CLAUSES];
        final int[] amounts = new int[MOST_CLAUSES];
        final int[] ends = new int[MOST_CLAUSES];
        int clauses = 0;
        final int[] code = new int[MOST_TEXT];
        int length = 0;

        int frost(int hour, boolean isWarm) {
            return sum(FROST, hour, isWarm) - sum(THAW, hour, isWarm);
        }

        int falls(int hour, boolean isWarm) {
            return sum(SNOW, hour, isWarm);
        }

        int bearing() {
            int bears = 10;
            for (int c = 0; c < clauses; c++) {
                if (sorts[c] == BEARS) bears = amounts[c];
            }
            return Math.max(1, bears);
        }

        void begin() {
            clauses = 0;
            length = 0;
        }

        void add(int part) {
            if (length >= MOST_TEXT) return;
            code[length] = part;
            length++;
        }

        void endClause(int sort, int amount) {
            if (clauses >= MOST_CLAUSES) return;
            sorts[clauses] = sort;
            amounts[clauses] = amount;
            ends[clauses] = length;
            clauses++;
        }

        private int sum(int sort, int hour, boolean isWarm) {
            int sum = 0;
            for (int c = 0; c < clauses; c++) {
                if (sorts[c] == sort && holds(c, hour, isWarm ? 1 : 0)) sum += amounts[c];
            }
            return sum;
        }

        private boolean holds(int clause, int hour, int warm) {
            // What is found so far lies as bits, the latest lowest: four nestings leave 11 open at most.
            int found = 0;
            for (int i = clause == 0 ? 0 : ends[clause - 1]; i < ends[clause]; i++) {
                int part = code[i];
                if (part == NOT) found ^= 1;
                else if (part == AND) found = found >> 1 & (found | ~1);
                else if (part == OR) found = found >> 1 | found & 1;
                else found = found << 1 | (isSo(part, hour, warm) ? 1 : 0);
            }
            return (found & 1) == 1;
        }

        private static boolean isSo(int test, int hour, int warm) {
            int letter = test / OF_LETTER;
            int relation = test / OF_RELATION % 3;
            int number = test % OF_RELATION;
            int value = warm;
            if (letter == 0) value = hour % HOURS_OF_DAY;
            if (letter == 1) value = hour / HOURS_OF_DAY % DAYS_COUNTED;
            if (relation == 0) return value < number;
            return relation == 1 ? value == number : value > number;
        }
    }

    /** Reads a text into a winter; where it stops short of the end, its place is the fault. */
    static final class Reader {
        final byte[] text;
        final int length;
        final Winter into;
        int place = 0;
        int number = 0;

        Reader(byte[] text, int length, Winter into) {
            this.text = text;
            this.length = Math.min(length, text.length);
            this.into = into;
        }

        boolean takeWinter() {
            into.begin();
            for (int c = 0; c < MOST_CLAUSES; c++) {
                if (!takeClause()) return false;
                if (place == length) return true;
                if (c == MOST_CLAUSES - 1 || !take(';')) return false;
            }
            return false;
        }

        private boolean takeClause() {
            int sort = sortHere();
            if (!takeWord(wordOf(sort)) || !take(' ') || !takeNumber()) return false;
            int amount = number;
            if (sort != Winter.BEARS && (!take(' ') || !takeAny(0))) return false;
            into.endClause(sort, amount);
            return true;
        }

        private int sortHere() {
            if (isAt('f')) return Winter.FROST;
            if (isAt('t')) return Winter.THAW;
            return isAt('s') ? Winter.SNOW : Winter.BEARS;
        }

        private static String wordOf(int sort) {
            switch (sort) {
                case Winter.FROST: return "frost";
                case Winter.THAW: return "thaw";
                case Winter.SNOW: return "snow";
                default: return "bears";
            }
        }

        private boolean takeAny(int nested) {
            if (!takeAll(nested)) return false;
            for (int more = 0; more < MOST_TEXT && take('|'); more++) {
                if (!takeAll(nested)) return false;
                into.add(Winter.OR);
            }
            return true;
        }

        private boolean takeAll(int nested) {
            if (!takeOne(nested)) return false;
            for (int more = 0; more < MOST_TEXT && take('&'); more++) {
                if (!takeOne(nested)) return false;
                into.add(Winter.AND);
            }
            return true;
        }

        private boolean takeOne(int nested) {
            if (nested < MOST_NESTED && take('!')) {
                if (!takeOne(nested + 1)) return false;
                into.add(Winter.NOT);
                return true;
            }
            if (nested < MOST_NESTED && take('(')) return takeAny(nested + 1) && take(')');
            int letter = takeOneOf("hdw");
            if (letter < 0) return false;
            int relation = takeOneOf("<=>");
            if (relation < 0 || !takeNumber()) return false;
            into.add(letter * Winter.OF_LETTER + relation * Winter.OF_RELATION + number);
            return true;
        }

        private boolean takeNumber() {
            int first = takeOneOf("0123456789");
            if (first < 0) return false;
            int second = takeOneOf("0123456789");
            number = second < 0 ? first : 10 * first + second;
            return true;
        }

        private boolean takeWord(String word) {
            for (int i = 0; i < word.length(); i++) {
                if (!take(word.charAt(i))) return false;
            }
            return true;
        }

        private int takeOneOf(String signs) {
            if (place >= length) return -1;
            int which = signs.indexOf((char) (text[place] & 255));
            if (which >= 0) place++;
            return which;
        }

        private boolean take(char sign) {
            if (!isAt(sign)) return false;
            place++;
            return true;
        }

        private boolean isAt(char sign) {
            return place < length && text[place] == sign;
        }
    }

    /** The bodies of the kinds, and a note of those that ran. */
    static final class Acts {
        static final int MOST_NOTED = 20, DEEPEST = 40;
        static final int FREEZES = 0, GOES = 1, TELLS = 2, ACTS = 3;
        // A row for each kind: its bodies of freezes, goes, tells; 0 where it has none.
        private static final int[] BODIES = {
            10, 11, 12,
            0, 20, 0,
            30, 0, 0,
            50, 51, 0,
            0, 0, 40,
            0, 0, 60,
            71, 70, 0,
        };

        final int[] noted = new int[MOST_NOTED];
        int ran = 0;
        int cell = 0;
        int kind = 0;
        int value = 0;

        void forget() {
            ran = 0;
        }

        int start(int act, int ownCell, int ownKind, int ownValue, int x) {
            cell = ownCell;
            kind = ownKind;
            value = ownValue;
            return perform(act, kind, x, 0);
        }

        /** Runs the body of an act that is nearest above, from a kind on. */
        private int perform(int act, int from, int x, int depth) {
            if (depth > DEEPEST) return 0;
            int body = bodyOf(act, from);
            note(body);
            int d = depth + 1;
            switch (body) {
                case 10: return x + cell;
                case 11: return perform(FREEZES, kind, x, d) - value;
                case 12: return perform(GOES, kind, x, d) * 2;
                case 20: return perform(GOES, above(CLEAN), x, d) ^ 6;
                case 30: return perform(FREEZES, above(WHITENING), x * 3, d);
                case 40: return perform(TELLS, above(SUNNED), x, d) + perform(GOES, kind, 1, d);
                case 50: return -perform(FREEZES, above(SPRUNG), x, d);
                case 51: return perform(GOES, above(SPRUNG), x + 1, d);
                case 60: return perform(TELLS, above(SHADED), x - cell, d);
                case 70: return perform(GOES, above(KEPT), x, d) + perform(FREEZES, above(KEPT), 2, d);
                case 71: return perform(FREEZES, above(KEPT), x, d) ^ value;
                default: return 0;
            }
        }

        private void note(int body) {
            if (ran < MOST_NOTED) noted[ran] = body;
            ran++;
        }

        private static int above(int kind) {
            return KIND_ABOVE[kind];
        }

        private static int bodyOf(int act, int from) {
            int kind = from;
            for (int step = 0; step < KINDS && isKind(kind); step++) {
                int body = BODIES[kind * ACTS + act];
                if (body != 0) return body;
                kind = KIND_ABOVE[kind];
            }
            return 0;
        }
    }

    /** A row of items of one sort, or nothing. */
    static final class Tape {
        int sort = NO_SORT;
        int length = 0;
        final long[] items = new long[MOST_ITEMS];

        void become(int newSort, int newLength) {
            sort = newSort;
            length = newLength;
            for (int i = 0; i < MOST_ITEMS; i++) items[i] = 0;
        }

        long fitting(long v) {
            switch (sort) {
                case BYTES: return (byte) v;
                case SHORTS: return (short) v;
                case INTS: return (int) v;
                case BOOLEANS: return v != 0 ? 1 : 0;
                default: return v;
            }
        }

        boolean hasPart(int from, int n) {
            // The length less n, as from and n together could wrap.
            return n >= 0 && from >= 0 && n <= length && from <= length - n;
        }
    }
}
