/** Promises 26 to 28, sentence by sentence: what is so at each bound, one below it and one above it. */
final class ImageBoundsTest {
    private static final Bounds B = new Bounds("ImageBoundsTest");
    private static final int NONE = IceBears.NONE, STATE = IceBears.STATE, FULL = IceBears.FULL, CAST = -12;

    private static void due(String call, long got, long want) {
        B.due(call, got, want);
    }

    /** Cells 1 to 16 thick, and a row of longs in tape 2 that tells so from place i on, as far as it goes. */
    private static IceBears told(int length, int i) {
        IceBears pond = new IceBears();
        for (int cell = 0; cell < 16; cell++) pond.lay(cell, cell, 2, 3);
        pond.tape(2, 3, length);
        for (int cell = 0; cell < 16; cell++) pond.item(2, i + cell, cell + 1);
        return pond;
    }

    // ---- judge

    /** Promise 26: "the first CELL (0 .. 15) that is otherwise; -5: none, or there is none to look at" */
    private static void theFirstOtherCellIsJudged() {
        for (int cell = 0; cell < 16; cell++) {
            IceBears pond = told(16, 0);
            due("26: none is otherwise", pond.judge(2, 0), -5);
            pond.item(2, cell, cell);
            due("26: one less at " + cell, pond.judge(2, 0), cell);
            pond.item(2, cell, cell + 2);
            due("26: one more at " + cell, pond.judge(2, 0), cell);
            pond.item(2, 15, 99);
            due("26: the last as well", pond.judge(2, 0), cell);
            pond.item(2, 0, 99);
            due("26: the first as well", pond.judge(2, 0), 0);
            IceBears other = told(16, 0);
            other.lay(cell, 20, 0, 0);
            due("26: it is otherwise itself at " + cell, other.judge(2, 0), cell);
            other.lay(cell, cell + 1, 1, 9);
            due("26: as thick in another way", other.judge(2, 0), -5);
        }
        IceBears open = new IceBears();
        open.tape(0, 3, 16);
        due("26: open water and a row of 0", open.judge(0, 0), -5);
    }

    /** Promise 26: "THICK told by a row of longs, from a place on, CELL by CELL from 0 on, is JUDGED against how all is" */
    private static void longsAreLookedAtWhole() {
        long[] others = {5 + (1L << 32), 5 - (1L << 32), 5 + (1L << 8), 5 + (1L << 16), 5 | 1L << 63, -5,
            Long.MIN_VALUE};
        for (long v : others) {
            IceBears pond = told(16, 0);
            pond.item(2, 4, 5);
            due("26: 5", pond.judge(2, 0), -5);
            pond.item(2, 4, v);
            due("26: " + v + " is not 5", pond.judge(2, 0), 4);
        }
    }

    /** Promise 26: "100 and how many were looked at, if the row ends ahead of that" */
    private static void aRowMayEndTooSoon() {
        for (int length = 0; length <= 18; length++) {
            due("26: a row of " + length, told(length, 0).judge(2, 0), length < 16 ? 100 + length : -5);
        }
        for (int i = 0; i <= 60; i++) {
            due("26: from " + i + " of 60 on", told(60, i).judge(2, i), i <= 44 ? -5 : 160 - i);
        }
        for (int i = 16; i <= 60; i += 44) due("26: at the end, " + i, told(i, 0).judge(2, i), 100);
        due("26: beyond the end", told(16, 0).judge(2, 17), 100);
        due("26: beyond any end", told(60, 0).judge(2, 61), 100);
        IceBears pond = told(16, 1);
        due("26: the row ends behind 15", pond.judge(2, 1), 115);
        pond.item(2, 15, 0);
        due("26: the last of 15 is otherwise", pond.judge(2, 1), 14);
        pond.item(2, 1, 0);
        due("26: the first of 15 is otherwise", pond.judge(2, 1), 0);
        int[] wrapping = {Integer.MAX_VALUE, Integer.MAX_VALUE - 15, Integer.MAX_VALUE - 1};
        for (int i : wrapping) due("26: far beyond the end, " + i, told(60, 0).judge(2, i), 100);
    }

    /** Promise 26: "(or the place is below 0, or the TAPE holds nothing)" */
    private static void nothingIsLookedAtBelowNought() {
        int[] places = {-1, -2, -15, -16, Integer.MIN_VALUE};
        for (int i : places) {
            due("26: place " + i, told(16, 0).judge(2, i), 100);
            due("26: place " + i + " of nothing", told(16, 0).judge(1, i), 100);
        }
        due("26: place 0", told(16, 0).judge(2, 0), -5);
        due("26: nothing", told(16, 0).judge(1, 0), 100);
        due("26: nothing, place 1", told(16, 0).judge(5, 1), 100);
        IceBears pond = told(16, 0);
        pond.tape(2, -1, 16);
        due("26: nothing any more", pond.judge(2, 0), 100);
    }

    /** Promise 26: "JUDGED from place i of a TAPE on. NONE: tape; CAST: it is no row of longs." */
    private static void judgeNamesTheTapeAheadOfItsSort() {
        for (int tape = 0; tape < 6; tape++) {
            for (int sort = 0; sort < 5; sort++) {
                IceBears pond = new IceBears();
                pond.tape(tape, sort, 16);
                due("26: tape " + tape + " of sort " + sort, pond.judge(tape, 0), sort == 3 ? -5 : CAST);
                due("26: below 0", pond.judge(tape, -1), sort == 3 ? 100 : CAST);
                pond.tape(tape, sort, 0);
                due("26: a row of none", pond.judge(tape, 0), sort == 3 ? 100 : CAST);
            }
        }
        B.outside("26: tape", (pond, n) -> pond.judge(n, 0), 0, 5, NONE);
        B.refused("26: tape 6, place -1", pond -> pond.judge(6, -1), NONE);
        B.refused("26: bytes", pond -> pond.judge(3, 0), CAST);
        B.unchanged("26: judged", Ponds::withTapes, pond -> pond.judge(2, 0), 0);
    }

    // ---- image, undo

    /** Promise 28: "All is as THE IMAGE: which HOUR it is. STATE: there is none." */
    private static void withoutAnImageThereIsNoWayBack() {
        B.unchanged("28: a new pond", IceBears::new, IceBears::undo, STATE);
        IceBears pond = new IceBears();
        pond.go(240);
        pond.lay(0, 9, 9, 9);
        due("28: none", pond.undo(), STATE);
        due("28: the hour is what it was", pond.count(3), 240);
        due("28: the ice is what it was", pond.of(0, 3), 13);
        due("27: one", pond.image(), 240);
        due("28: there is one", pond.undo(), 240);
        due("28: there is one still", pond.undo(), 240);
        due("28: the ice is what it was", pond.of(0, 3), 13);
    }

    /** Promise 27: "THE IMAGE is taken: which HOUR it is." */
    private static void anImageIsOfTheFirstHourAndTheLast() {
        IceBears pond = new IceBears();
        due("27: hour 0", pond.image(), 0);
        for (int i = 0; i < 41; i++) pond.go(240);
        pond.go(159);
        due("28: back to hour 0", pond.undo(), 0);
        due("28: hours can go by again", pond.go(240), 240);
        for (int i = 0; i < 40; i++) pond.go(240);
        pond.go(159);
        due("27: hour 9999", pond.image(), 9999);
        due("28: back to hour 9999", pond.undo(), 9999);
        due("28: no more can go by", pond.go(1), STATE);
        B.unchanged("27: an image changes nothing but the image", () -> imaged(Ponds.rich()), IceBears::image, 9);
    }

    private static IceBears imaged(IceBears pond) {
        pond.image();
        return pond;
    }

    /**
     * Promise 28: "THE IMAGE: CELLS with all that is in them, CHILDREN, PLACES, the HOUR, WARM DAYS, ODDS, HOLES, which
     * WINTER holds."
     */
    private static void fromMostBackToLeast() {
        IceBears pond = new IceBears();
        Check.read(pond, "bears 7");
        due("27: of the least", pond.image(), 0);
        for (int cell = 0; cell < 16; cell++) {
            pond.lay(cell, 999, 999, 99);
            pond.children(cell, 9);
            pond.place(cell, 6, 9);
        }
        for (int day = 0; day < 10; day++) pond.warm(day, true);
        for (int k = 0; k < 4; k++) pond.odds(k, 10);
        for (int i = 0; i < 10; i++) pond.hole(15, 239, 1499);
        pond.go(240);
        Check.read(pond, "bears 9");
        due("28: back", pond.undo(), 0);
        for (int cell = 0; cell < 16; cell++) {
            for (int what = 0; what < 3; what++) due("28: ice of " + cell + ", " + what, pond.of(cell, what), 0);
            due("28: children of " + cell, pond.of(cell, 6), 0);
            due("28: number of " + cell, pond.act(cell, 1, 0), cell);
            due("28: kind of " + cell, pond.place(cell, 0, 0), 0);
        }
        for (int day = 0; day < 10; day++) due("28: warm day " + day, pond.warm(day, false), 0);
        for (int k = 0; k < 4; k++) due("28: odds " + k, pond.odds(k, 0), 0);
        due("28: holes", pond.count(1), 0);
        due("28: off by no hole", pond.off(0), 0);
        due("28: the first hole again", pond.hole(0, 0, 3), 1);
        due("28: off by that alone", pond.off(0), 3);
        due("28: the hour", pond.count(3), 0);
        due("28: the winter that holds", pond.told(0, 2), 7);
    }

    /** Promise 28: "HOLES, which WINTER holds." */
    private static void fromLeastBackToMost() {
        IceBears pond = new IceBears();
        for (int i = 1; i <= 10; i++) pond.hole(0, 0, i);
        for (int i = 1; i <= 5; i++) Check.read(pond, "bears " + i);
        for (int cell = 0; cell < 16; cell++) pond.lay(cell, 999, 998, 99);
        for (int day = 0; day < 10; day++) pond.warm(day, true);
        for (int k = 0; k < 4; k++) pond.odds(k, 10);
        pond.image();
        for (int cell = 0; cell < 16; cell++) pond.lay(cell, 0, 0, 0);
        for (int day = 0; day < 10; day++) pond.warm(day, false);
        for (int k = 0; k < 4; k++) pond.odds(k, 0);
        pond.undo();
        due("28: ten holes", pond.count(1), 10);
        due("28: and no eleventh", pond.hole(0, 0, 0), FULL);
        due("28: the same", pond.off(0), 55);
        due("28: the fifth winter", pond.told(0, 2), 5);
        for (int cell = 0; cell < 16; cell++) {
            due("28: clear of " + cell, pond.of(cell, 0), 999);
            due("28: white of " + cell, pond.of(cell, 1), 998);
            due("28: snow of " + cell, pond.of(cell, 2), 99);
        }
        for (int day = 0; day < 10; day++) due("28: warm day " + day, pond.warm(day, false), 1);
        for (int k = 0; k < 4; k++) due("28: odds " + k, pond.odds(k, 0), 10);
    }

    /** Promise 28: "which WINTER holds." */
    private static void theWinterMayBeNoneOrNotTheNewest() {
        IceBears pond = new IceBears();
        pond.image();
        for (int i = 1; i <= 3; i++) Check.read(pond, "bears " + i);
        pond.undo();
        due("28: none holds", pond.told(0, 2), 10);
        due("28: three were read", pond.count(0), 3);
        due("28: the third was", pond.off(2), 0);
        due("7: the next is the fourth", Check.read(pond, "bears 4"), 3);
        due("7: and holds", pond.told(0, 2), 4);
        pond.image();
        due("7: the last", Check.read(pond, "bears 5"), 4);
        due("28: back to the fourth", pond.undo(), 0);
        due("28: which holds", pond.told(0, 2), 4);
        due("7: there are five all the same", Check.read(pond, "bears 6"), FULL);
        due("7: a winter refused holds not", pond.told(0, 2), 4);
    }

    /** Promises 27, 28: "CELLS with all that is in them, CHILDREN, PLACES, the HOUR, WARM DAYS, ODDS, HOLES" */
    private static void whatNoImageHoldsStays() {
        IceBears pond = Ponds.rich();
        due("27: taken", pond.image(), 9);
        due("30: the trace stays", pond.trace(0), 12);
        due("32: nine ran", pond.count(4), 9);
        pond.act(0, 1, 1);
        pond.item(1, 2, 98);
        Check.write(pond, " h=");
        due("28: back", pond.undo(), 9);
        due("30: the later trace stays", pond.trace(0), 11);
        due("32: two ran", pond.count(4), 2);
        due("35: the later item stays", pond.read(1, 2), 98);
        due("32: all bytes stay", pond.count(2), 10);
        pond.feed('1', 1);
        due("7: and are read", pond.winter(), 2);
        due("28: back", pond.undo(), 9);
        due("32: three winters were read", pond.count(0), 3);
        due("32: no bytes come back", pond.count(2), 0);
    }

    /** Promise 28: "All is as THE IMAGE" */
    private static void theLatestImageIsMeantAndStays() {
        IceBears pond = new IceBears();
        for (int n = 0; n < 5; n++) {
            pond.lay(0, n, 0, 0);
            pond.image();
            pond.lay(0, 99, 0, 0);
            pond.undo();
            due("28: as in image " + n, pond.of(0, 0), n);
            pond.lay(0, 98, 0, 0);
            pond.undo();
            due("28: as in image " + n + " again", pond.of(0, 0), n);
        }
        // What was changed behind it leaves the image as it was taken.
        pond.place(3, 6, 9);
        pond.undo();
        due("28: a place", pond.taken(3, 0), 0);
    }

    public static void main(String[] args) {
        theFirstOtherCellIsJudged();
        longsAreLookedAtWhole();
        aRowMayEndTooSoon();
        nothingIsLookedAtBelowNought();
        judgeNamesTheTapeAheadOfItsSort();
        withoutAnImageThereIsNoWayBack();
        anImageIsOfTheFirstHourAndTheLast();
        fromMostBackToLeast();
        fromLeastBackToMost();
        theWinterMayBeNoneOrNotTheNewest();
        whatNoImageHoldsStays();
        theLatestImageIsMeantAndStays();
        B.end();
    }
}
