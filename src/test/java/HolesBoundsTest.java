/** Promises 20 to 25, sentence by sentence: what is so at each bound, one below it and one above it. */
final class HolesBoundsTest {
    private static final Bounds B = new Bounds("HolesBoundsTest");
    private static final int NONE = IceBears.NONE, BAD = IceBears.BAD, FULL = IceBears.FULL;

    private static void due(String call, long got, long want) {
        B.due(call, got, want);
    }

    private static IceBears under(String winter) {
        IceBears pond = new IceBears();
        Check.read(pond, winter);
        return pond;
    }

    // ---- hole, off, likely

    /** Promise 20: "HOLES, told by hand (10 at most)" */
    private static void tenHolesAtMost() {
        IceBears pond = under("bears 1");
        due("20: none at first", pond.count(1), 0);
        for (int i = 1; i <= 10; i++) {
            due("20: hole " + i, pond.hole(15, 0, i), i);
            due("20: so many", pond.count(1), i);
        }
        due("20: one too many", pond.hole(0, 0, 1000), FULL);
        due("20: ten still", pond.count(1), 10);
        due("20: the same ten", pond.off(0), 55);
        B.unchanged("20: full", Ponds::full, full -> full.hole(0, 0, 0), FULL);
        B.unchanged("20: no cell, ahead of full", Ponds::full, full -> full.hole(16, 0, 0), NONE);
        B.unchanged("20: no hour, ahead of full", Ponds::full, full -> full.hole(0, 240, 0), BAD);
        B.unchanged("20: too thick, ahead of full", Ponds::full, full -> full.hole(0, 0, 1500), BAD);
    }

    /** Promise 20: "a CELL, behind how many HOURS from the beginning (0 .. 239), how THICK it was." */
    private static void holesHaveTheirBounds() {
        for (int cell = 0; cell < 16; cell++) {
            IceBears pond = under("frost 9 d=0&h=0");
            pond.place(cell, 6, 9);
            due("20: a hole at " + cell, pond.hole(cell, 1, 0), 1);
            due("20: which is kept open", pond.off(0), 0);
            pond.hole((cell + 1) % 16, 1, 0);
            due("20: the next one is not", pond.off(0), 9);
        }
        B.outside("20: cell", (pond, n) -> pond.hole(n, 0, 0), 0, 15, NONE);
        B.outside("20: hour", (pond, n) -> pond.hole(0, n, 0), 0, 239, BAD);
    }

    /** Promise 20: "A HOLE: how many there are. NONE: cell; BAD: hour, thick (0 .. 1499); FULL: 10." */
    private static void aHolesThicknessIsAtMost1499() {
        IceBears pond = under("bears 1");
        due("20: 0 thick", pond.hole(3, 5, 0), 1);
        due("21: off by 0", pond.off(0), 0);
        due("20: 1499 thick", pond.hole(3, 5, 1499), 2);
        due("21: off by 1499", pond.off(0), 1499);
        B.outside("20: thick", (rich, n) -> rich.hole(0, 0, n), 0, 1499, BAD);
        B.refused("20: cell 16, hour 240", rich -> rich.hole(16, 240, 0), NONE);
        B.refused("20: cell -1, thick 1500", rich -> rich.hole(-1, 0, 1500), NONE);
    }

    /** Promise 21: "behind how many HOURS from the beginning (0 .. 239)" */
    private static void offCountsTheHoursFromTheBeginning() {
        int[][] hourThickOff = {{0, 0, 0}, {0, 7, 7}, {1, 0, 20}, {1, 20, 0}, {1, 21, 1}, {1, 19, 1}};
        for (int[] row : hourThickOff) {
            IceBears pond = under("frost 20 d=0&h=0");
            pond.hole(5, row[0], row[1]);
            due("21: " + row[1] + " thick behind " + row[0], pond.off(0), row[2]);
        }
        IceBears last = under("frost 20 d=9&h=22;frost 50 d=9&h=23");
        last.hole(5, 238, 0);
        due("21: behind 238", last.off(0), 0);
        last.hole(5, 239, 20);
        due("21: behind 239, and not 240", last.off(0), 0);
        last.hole(5, 239, 0);
        due("21: off by 20", last.off(0), 20);
    }

    /** Promise 21: "OFF of a WINTER (any that was read)" Promise 21: "OFF of a WINTER. NONE." */
    private static void everyWinterThatWasReadCanBeOff() {
        IceBears pond = new IceBears();
        pond.hole(0, 1, 0);
        due("21: none was read", pond.off(0), NONE);
        pond.image();
        for (int winter = 0; winter < 5; winter++) {
            due("21: not yet read", pond.off(winter), NONE);
            Check.read(pond, "frost " + (winter + 1) + " h=0");
            for (int read = 0; read <= winter; read++) due("21: winter " + read, pond.off(read), read + 1);
            due("21: not yet read", pond.off(winter + 1), NONE);
            due("21: below them", pond.off(-1), NONE);
        }
        pond.undo();
        due("21: none holds, and any can be off", pond.off(4), 5);
        B.outside("21: winter", (rich, n) -> rich.off(n), 0, 1, NONE);
        B.unchanged("21: winter 5", Ponds::full, full -> full.off(5), NONE);
    }

    /** Promise 21: "from no ice and HOUR 0 on, PLACES and WARM DAYS as they are" */
    private static void offBeginsWithNoIceAtHourNought() {
        IceBears pond = under("frost 9 d=0&h=0;frost 9 w=1&h=0;snow 9 h=0");
        for (int cell = 0; cell < 16; cell++) pond.lay(cell, 999, 999, 99);
        pond.hole(0, 0, 0);
        pond.hole(0, 1, 9);
        due("21: no ice and no snow of now", pond.off(0), 0);
        pond.go(240);
        due("21: not the hour of now", pond.off(0), 0);
        pond.warm(0, true);
        due("21: warm days of now", pond.off(0), 9);
        pond.warm(0, false);
        pond.place(0, 3, 4);
        due("21: places of now", pond.off(0), 4);
    }

    /** Promise 21: "the sum of how far THICK is from that of each HOLE" */
    private static void farIsSoAboveAndBelow() {
        IceBears pond = under("frost 9 h=0&d=0");
        due("21: no holes", pond.off(0), 0);
        pond.hole(0, 1, 8);
        due("21: one below", pond.off(0), 1);
        pond.hole(0, 1, 10);
        due("21: one above", pond.off(0), 2);
        pond.hole(0, 1, 9);
        due("21: none", pond.off(0), 2);
    }

    /**
     * Promise 22: "LIKELY: that with the least OFF (of several the least; -5: none was read)."
     * Promise 22: "LIKELY; -5."
     */
    private static void theLeastOffIsLikely() {
        IceBears pond = new IceBears();
        due("22: none was read", pond.likely(), -5);
        pond.hole(0, 1, 5);
        due("22: a hole, none was read", pond.likely(), -5);
        due("22: a fault is none", Check.read(pond, "frost 5"), -17);
        due("22: none was read still", pond.likely(), -5);
        int[] frosts = {9, 7, 3, 4, 6};
        int[] likely = {0, 1, 1, 3, 3};
        for (int winter = 0; winter < 5; winter++) {
            Check.read(pond, "frost " + frosts[winter] + " h=0");
            due("22: of " + (winter + 1), pond.likely(), likely[winter]);
        }
        pond.hole(0, 1, 9);
        due("22: off by 4, 4, 8, 6, 4: of several the least", pond.likely(), 0);
        pond.hole(0, 1, 6);
        due("22: off by 7, 5, 11, 8, 4: the last", pond.likely(), 4);
        B.unchanged("22: none was read", IceBears::new, IceBears::likely, -5);
    }

    // ---- blows

    /**
     * Promise 23: "BLOWS: an axe goes through in THICK by 15 (rounded up) blows: CELLS for which that is n now, as bits."
     */
    private static void blowsAreRoundedUp() {
        int[][] thickBlows = {{0, 0}, {1, 1}, {14, 1}, {15, 1}, {16, 2}, {29, 2}, {30, 2}, {31, 3}, {45, 3}, {46, 4},
            {985, 66}, {990, 66}, {991, 67}, {999, 67}};
        for (int[] row : thickBlows) {
            for (int cell = 0; cell < 16; cell++) {
                IceBears pond = new IceBears();
                for (int other = 0; other < 16; other++) pond.lay(other, row[0] == 1 ? 31 : 1, 0, 9);
                pond.lay(cell, row[0], 0, 99);
                int bits = row[1] == 1 && row[0] != 1 ? 0xFFFF : 1 << cell;
                due("23: " + row[0] + " thick at " + cell, pond.blows(row[1]), bits);
                if (row[1] > 2) due("23: one blow fewer", pond.blows(row[1] - 1), 0);
                if (row[1] > 2) due("23: one blow more", pond.blows(row[1] + 1), 0);
            }
        }
    }

    /** Promise 23: "BLOWS n (0 .. 99), as bits of CELLS. BAD." */
    private static void blowsAreAskedUpTo99() {
        due("23: all need none", new IceBears().blows(0), 0xFFFF);
        due("23: none needs one", new IceBears().blows(1), 0);
        int[][] whiteBits = {{941, 0}, {943, 0}, {944, 1 << 15}, {973, 1 << 15}, {974, 0}, {999, 0}};
        for (int[] row : whiteBits) {
            IceBears pond = new IceBears();
            pond.lay(15, 999, row[0], 0);
            due("23: 99 blows on 999 and half of " + row[0], pond.blows(99), row[1]);
        }
        B.outside("23: n", (pond, n) -> pond.blows(n), 0, 99, BAD);
        B.unchanged("23: blows 99", Ponds::full, pond -> pond.blows(99), 0);
    }

    // ---- odds, sure

    /** All so thick, and one child at the first cell, which is borne by 5 and not by 4; a warm day's thaw takes all. */
    private static IceBears hanging(String winter, int thick) {
        IceBears pond = under(winter);
        for (int cell = 0; cell < 16; cell++) pond.lay(cell, thick, 0, 0);
        pond.children(0, 1);
        return pond;
    }

    private static void sure(String call, IceBears pond, int n, int above, int below) {
        due("25: " + call + ", behind " + n + ", above", pond.sure(n, 0), above);
        due("25: " + call + ", behind " + n + ", below", pond.sure(n, 1), below);
    }

    /** Promise 24: "ODDS of the k-th DAY (0 .. 3) from now on become n: what they were. NONE; BAD." */
    private static void oddsHaveTheirBounds() {
        for (int k = 0; k < 4; k++) {
            IceBears pond = new IceBears();
            due("24: 0 at first", pond.odds(k, 10), 0);
            due("24: 10", pond.odds(k, 0), 10);
            due("24: 0", pond.odds(k, 1), 0);
            due("24: 1", pond.odds(k, 9), 1);
            for (int other = 0; other < 4; other++) {
                due("24: " + other + " beside " + k, pond.odds(other, 0), other == k ? 9 : 0);
            }
        }
        B.outside("24: k", (pond, n) -> pond.odds(n, 1), 0, 3, NONE);
        B.outside("24: n", (pond, n) -> pond.odds(1, n), 0, 10, BAD);
        B.refused("24: k 4, n 11", pond -> pond.odds(4, 11), NONE);
        B.refused("24: k -1, n -1", pond -> pond.odds(-1, -1), NONE);
    }

    /** Promise 25: "each is WARM with its odds of ten (0 at first), whatever is told of it; others as they are." */
    private static void oddsRunFromNeverToAlways() {
        int[][] fractions = {{1, 1}, {9, 10}, {4, 5}, {7, 10}, {3, 5}, {1, 2}, {2, 5}, {3, 10}, {1, 5}, {1, 10},
            {0, 1}};
        for (int told = 0; told < 2; told++) {
            IceBears pond = hanging("thaw 99 w=1", 20);
            pond.warm(0, told == 1);
            pond.warm(3, told == 1);
            sure("0 at first, told " + told, pond, 24, 1, 1);
            sure("0 at first on the fourth day, told " + told, pond, 96, 1, 1);
            for (int n = 0; n <= 10; n++) {
                pond.odds(0, n);
                sure("odds " + n + ", told " + told, pond, 1, fractions[n][0], fractions[n][1]);
            }
            pond.odds(0, 0);
            for (int n = 0; n <= 10; n++) {
                pond.odds(3, n);
                sure("odds " + n + " on the fourth day, told " + told, pond, 73, fractions[n][0], fractions[n][1]);
            }
        }
    }

    /** Promise 25: "ODDS: of the 4 DAYS from that of now on" */
    private static void aDayEndsWithItsLastHour() {
        IceBears pond = hanging("thaw 99 w=1", 20);
        for (int k = 0; k < 4; k++) pond.odds(k, 5);
        for (int day = 0; day < 4; day++) {
            sure("day " + day + " begins", pond, 24 * day + 1, 1, 2 << day);
            sure("day " + day + " ends", pond, 24 * day + 24, 1, 2 << day);
        }
        pond.go(23);
        for (int cell = 0; cell < 16; cell++) pond.lay(cell, 20, 0, 0);
        sure("the last hour of the first day", pond, 1, 1, 2);
        sure("the first hour of the second", pond, 2, 1, 4);
        sure("the last hour of the fourth", pond, 73, 1, 16);
        sure("the first hour of the fifth", pond, 74, 1, 16);
        pond.warm(3, true);
        sure("the last hour of the fourth, told warm", pond, 73, 1, 16);
        pond.warm(4, true);
        sure("the last hour of the fourth, the fifth told warm", pond, 73, 1, 16);
        sure("the first hour of the fifth, told warm", pond, 74, 0, 1);
        pond.warm(4, false);
        for (int k = 0; k < 4; k++) pond.odds(k, 10);
        sure("four warm days", pond, 96, 0, 1);
    }

    /** Promise 25: "whatever is told of it; others as they are" */
    private static void daysBeyondThoseToldHaveTheirOdds() {
        int[] hours = {9 * 24, 10 * 24, 99 * 24, 100 * 24};
        for (int hour : hours) {
            IceBears pond = hanging("thaw 99 w=1", 20);
            int now = 0;
            while (now + 240 <= hour) now = pond.go(240);
            if (now < hour) pond.go(hour - now);
            for (int cell = 0; cell < 16; cell++) pond.lay(cell, 20, 0, 0);
            pond.odds(0, 3);
            pond.odds(1, 4);
            sure("hour " + hour, pond, 24, 7, 10);
            sure("hour " + hour, pond, 25, 21, 50);
        }
    }

    /**
     * Promise 25: "SURE of n HOURS (1 .. 96): how likely every CELL bears the CHILDREN as they are behind them"
     * Promise 25: "SURE; part 0 above, 1 below the line. NO."
     */
    private static void sureLooksFrom1To96HoursAhead() {
        sure("in the first hour", hanging("thaw 99 d=0&h=0", 20), 1, 0, 1);
        IceBears second = hanging("thaw 99 d=0&h=1", 20);
        sure("ahead of the second hour", second, 1, 1, 1);
        sure("in the second hour", second, 2, 0, 1);
        IceBears last = hanging("thaw 99 d=3&h=23", 20);
        sure("ahead of the last hour", last, 95, 1, 1);
        sure("in the last hour", last, 96, 0, 1);
        sure("behind the last hour", hanging("thaw 99 d=4&h=0", 20), 96, 1, 1);
        for (int part = 0; part < 2; part++) {
            int one = part;
            B.outside("25: n, part " + part, (pond, n) -> pond.sure(n, one), 1, 96, IceBears.NO);
        }
        B.outside("25: part", (pond, n) -> pond.sure(1, n), 0, 1, IceBears.NO);
        B.unchanged("25: sure 96", IceBears::new, pond -> pond.sure(96, 0), 1);
        B.unchanged("25: hours above 9999", Ponds::full, pond -> pond.sure(96, 1), 1);
    }

    /** Promise 25: "how likely every CELL bears the CHILDREN as they are behind them" */
    private static void everyCellMustBear() {
        IceBears pond = hanging("bears 10", 5);
        sure("5 thick", pond, 1, 1, 1);
        pond.lay(0, 4, 0, 0);
        sure("4 thick", pond, 1, 0, 1);
        pond.lay(0, 5, 0, 0);
        pond.lay(1, 3, 0, 0);
        sure("3 thick near it, with load alone", pond, 1, 0, 1);
        pond.lay(1, 4, 0, 0);
        sure("4 thick near it", pond, 1, 1, 1);
        pond.lay(15, 0, 0, 0);
        sure("open water with no load", pond, 1, 1, 1);
        pond.children(15, 1);
        sure("open water in the last cell", pond, 1, 0, 1);
        sure("nobody on open water", new IceBears(), 96, 1, 1);
    }

    /** Promise 25: "a fraction in lowest terms." */
    private static void theFractionIsInLowestTerms() {
        // A warm day takes 1: four of them make 4 of 8, which does not bear.
        IceBears pond = hanging("thaw 1 w=1&h=0", 8);
        for (int k = 0; k < 4; k++) pond.odds(k, 1);
        sure("one of ten thousand falls", pond, 96, 9999, 10000);
        sure("the fourth day has not begun", pond, 72, 1, 1);
        pond.odds(0, 10);
        sure("one of a thousand falls", pond, 96, 999, 1000);
        pond.odds(1, 10);
        sure("one of a hundred falls", pond, 96, 99, 100);
        pond.odds(2, 5);
        sure("one of twenty falls", pond, 96, 19, 20);
        pond.odds(3, 10);
        sure("one of two falls", pond, 96, 1, 2);
        pond.odds(2, 10);
        sure("they fall", pond, 96, 0, 1);
        pond.odds(3, 0);
        sure("they don't", pond, 96, 1, 1);
        IceBears once = hanging("thaw 1 w=1&h=0", 5);
        for (int k = 0; k < 4; k++) once.odds(k, 9);
        sure("one of ten thousand stands", once, 96, 1, 10000);
        for (int k = 0; k < 4; k++) once.odds(k, 5);
        sure("one of sixteen stands", once, 96, 1, 16);
        for (int k = 0; k < 4; k++) once.odds(k, 4);
        sure("81 of 625 stand", once, 96, 81, 625);
    }

    public static void main(String[] args) {
        tenHolesAtMost();
        holesHaveTheirBounds();
        aHolesThicknessIsAtMost1499();
        offCountsTheHoursFromTheBeginning();
        everyWinterThatWasReadCanBeOff();
        offBeginsWithNoIceAtHourNought();
        farIsSoAboveAndBelow();
        theLeastOffIsLikely();
        blowsAreRoundedUp();
        blowsAreAskedUpTo99();
        oddsHaveTheirBounds();
        oddsRunFromNeverToAlways();
        aDayEndsWithItsLastHour();
        daysBeyondThoseToldHaveTheirOdds();
        sureLooksFrom1To96HoursAhead();
        everyCellMustBear();
        theFractionIsInLowestTerms();
        B.end();
    }
}
