/** Promises 13 to 19, sentence by sentence: what is so at each bound, one below it and one above it. */
final class AheadBoundsTest {
    private static final Bounds B = new Bounds("AheadBoundsTest");
    private static final int NONE = IceBears.NONE, BAD = IceBears.BAD, NEVER = -5;

    private static void due(String call, long got, long want) {
        B.due(call, got, want);
    }

    private static IceBears under(String winter) {
        IceBears pond = new IceBears();
        Check.read(pond, winter);
        return pond;
    }

    /** All cells so thick, in clear ice alone. */
    private static IceBears even(String winter, int clear) {
        IceBears pond = under(winter);
        for (int cell = 0; cell < 16; cell++) pond.lay(cell, clear, 0, 0);
        return pond;
    }

    // ---- when

    /** Promise 13: "WHEN k: behind how many HOURS (0 .. 240) first every CELL would bear" */
    private static void whenIsFrom0To240Hours() {
        due("13: now", even("frost 1 h<24", 8).when(1), 0);
        due("13: in 1", under("frost 9 d=0&h=0").when(1), 1);
        due("13: in 2", under("frost 9 d=0&h=1").when(1), 2);
        due("13: in 239", under("frost 9 d=9&h=22").when(1), 239);
        due("13: in 240", under("frost 9 d=9&h=23").when(1), 240);
        due("13: in 241 is never", under("frost 9 d=10&h=0").when(1), NEVER);
        IceBears later = under("frost 9 d=10&h=0");
        later.go(1);
        due("13: in 240 from hour 1 on", later.when(1), 240);
        later.go(239);
        due("13: in 1 from hour 240 on", later.when(1), 1);
        later.go(1);
        due("13: now", later.when(1), 0);
        IceBears late = under("frost 9 d=16&h=16");
        for (int i = 0; i < 41; i++) late.go(240);
        late.go(159);
        for (int cell = 0; cell < 16; cell++) late.lay(cell, 0, 0, 0);
        due("13: hour 10000 can be asked for", late.when(1), 2);
        due("14: behind hour 9999", late.thin(1, 1), 0);
        due("14: behind hour 10000", late.thin(2, 1), 9);
        due("18: behind hour 9999", late.board(1, 9, 0), 0);
        due("18: behind hour 10000", late.board(2, 9, 0), 1);
        due("13: it is hour 9999 still", late.count(3), 9999);
    }

    /** Promise 13: "first every CELL would bear, if there were k CHILDREN (1 .. 9) in each (-5: never)." */
    private static void theFirstHourIsMeantAndEveryCell() {
        due("13: it melts again at once", under("frost 9 d=0&h=2;thaw 99 d=0&h=3").when(1), 3);
        due("13: it bears now and never again", even("thaw 99 d=0&h=0", 8).when(1), 0);
        due("13: 8 of frost in the first hour is 8 thick, 6 are borne", under("frost 8 d=0&h=0").when(1), 1);
        due("13: 7 of frost is one too few", under("frost 7 d=0&h=0").when(1), NEVER);
        due("13: it never freezes", new IceBears().when(1), NEVER);
        for (int cell = 0; cell < 16; cell++) {
            IceBears pond = even("bears 10", 50);
            pond.lay(cell, 0, 1, 0);
            due("13: all but " + cell, pond.when(1), NEVER);
        }
        IceBears crowded = even("bears 10", 8);
        for (int cell = 0; cell < 16; cell++) crowded.children(cell, 9);
        due("13: those that are there play no part", crowded.when(1), 0);
    }

    /** Promise 13: "if there were k CHILDREN (1 .. 9) in each" */
    private static void oneToNineChildrenInEach() {
        // Six k in the middle, five k at an edge, four k in a corner, on thick times thick by ten.
        int[] middle = {8, 11, 14, 16, 18, 19, 21, 22, 24};
        int[] edge = {8, 10, 13, 15, 16, 18, 19, 20, 22};
        int[] corner = {7, 9, 11, 13, 15, 16, 17, 18, 19};
        for (int k = 1; k <= 9; k++) {
            int[] cells = {5, 6, 9, 10, 1, 2, 4, 7, 8, 11, 13, 14, 0, 3, 12, 15};
            for (int i = 0; i < 16; i++) {
                int thick = i < 4 ? middle[k - 1] : i < 12 ? edge[k - 1] : corner[k - 1];
                IceBears pond = even("bears 10", 99);
                pond.lay(cells[i], thick, 0, 0);
                due("13: " + k + " on " + thick + " at " + cells[i], pond.when(k), 0);
                pond.lay(cells[i], thick - 1, 0, 0);
                due("13: " + k + " on one less at " + cells[i], pond.when(k), NEVER);
            }
        }
    }

    /** Promise 13: "WHEN; -5. BAD." */
    private static void whenRefusesOtherNumbers() {
        B.outside("13: k", (pond, n) -> pond.when(n), 1, 9, BAD);
        B.unchanged("13: when 1", IceBears::new, pond -> pond.when(1), NEVER);
    }

    // ---- thin

    /** Promise 14: "THIN n: behind n HOURS (0 .. 99): the CELL that is thinnest (of several the least)" */
    private static void thinLooksFrom0To99HoursAhead() {
        IceBears first = under("frost 20 d=0&h=0");
        due("14: behind 0", first.thin(0, 1), 0);
        due("14: behind 1", first.thin(1, 1), 20);
        IceBears last = under("frost 20 d=4&h=2;frost 30 d=4&h=3");
        due("14: behind 98", last.thin(98, 1), 0);
        due("14: behind 99", last.thin(99, 1), 20);
        B.outside("14: n", (pond, n) -> pond.thin(n, 0), 0, 99, BAD);
        B.outside("14: n", (pond, n) -> pond.thin(n, 2), 0, 99, BAD);
        B.outside("14: what", (pond, n) -> pond.thin(1, n), 0, 2, NONE);
    }

    /** Promise 14: "the CELL that is thinnest (of several the least); how thick it is" */
    private static void theLeastOfTheThinnestIsMeant() {
        for (int cell = 0; cell < 16; cell++) {
            IceBears pond = even("bears 1", 30);
            due("14: all alike", pond.thin(0, 0), 0);
            pond.lay(cell, 29, 0, 0);
            due("14: one less thick", pond.thin(0, 0), cell);
            due("14: so thick", pond.thin(0, 1), 29);
            pond.lay(15, 29, 0, 0);
            due("14: of two the least", pond.thin(0, 0), cell);
            pond.lay(15, 28, 0, 0);
            due("14: unless the other is thinner", pond.thin(0, 0), 15);
            pond.lay(15, 28, 2, 0);
            due("14: half of white counts", pond.thin(0, 0), cell);
        }
        due("14: 1498 is the most", fullOfIce().thin(99, 1), 1498);
    }

    private static IceBears fullOfIce() {
        IceBears pond = new IceBears();
        for (int cell = 0; cell < 16; cell++) pond.lay(cell, 999, 999, 99);
        return pond;
    }

    /** Promise 14: "how many CELLS are half as THICK as the thickest or less." */
    private static void halfAsThickOrLess() {
        int[][] thickestOtherIsHalf = {{40, 19, 1}, {40, 20, 1}, {40, 21, 0}, {41, 20, 1}, {41, 21, 0}, {1, 0, 1},
            {1, 1, 0}, {2, 1, 1}, {2, 2, 0}, {3, 1, 1}, {3, 2, 0}, {999, 499, 1}, {999, 500, 0}};
        for (int[] row : thickestOtherIsHalf) {
            for (int cell = 0; cell < 16; cell += 15) {
                IceBears pond = even("bears 1", row[0]);
                pond.lay(cell, row[1], 0, 0);
                due("14: " + row[1] + " beside " + row[0], pond.thin(0, 2), row[2]);
            }
        }
        due("14: all of none are half of none", new IceBears().thin(0, 2), 16);
        due("14: none of all alike", even("bears 1", 1).thin(0, 2), 0);
        for (int cell = 0; cell < 16; cell++) {
            IceBears pond = even("bears 1", 5);
            pond.lay(cell, 10, 0, 0);
            due("14: all but the thickest", pond.thin(0, 2), 15);
        }
    }

    /**
     * Promise 14: "THIN behind n HOURS: what 0 the CELL, 1 how THICK, 2 how many are half as THICK as the thickest or
     * less. NONE; BAD."
     */
    private static void thinNamesWhatAheadOfHours() {
        B.refused("14: n 100, what 3", pond -> pond.thin(100, 3), NONE);
        B.refused("14: n -1, what -1", pond -> pond.thin(-1, -1), NONE);
        B.unchanged("14: thin 99", IceBears::new, pond -> pond.thin(99, 0), 0);
        IceBears pond = even("bears 1", 30);
        pond.lay(7, 12, 0, 0);
        pond.lay(8, 13, 0, 0);
        due("14: what 0", pond.thin(0, 0), 7);
        due("14: what 1", pond.thin(0, 1), 12);
        due("14: what 2", pond.thin(0, 2), 2);
    }

    // ---- reach

    private static IceBears way(int thick, int... cells) {
        IceBears pond = new IceBears();
        for (int cell : cells) pond.lay(cell, thick, 0, 0);
        return pond;
    }

    /** Promise 15: "SHORE: CELLS 0 .. 3." Promise 15: "REACH; -5. NONE." */
    private static void theShoreIsTheFirstRow() {
        IceBears open = new IceBears();
        for (int cell = 0; cell < 16; cell++) due("15: open water, " + cell, open.reach(cell), cell < 4 ? 0 : NEVER);
        IceBears iced = even("bears 10", 50);
        for (int cell = 0; cell < 16; cell++) due("15: all bear, " + cell, iced.reach(cell), cell / 4);
        // A start in the second row is none.
        due("15: from 4 to 8", way(50, 4).reach(8), NEVER);
        due("15: from 3 to 7", way(50, 3).reach(7), 1);
        due("15: from 0 to 4", way(50, 0).reach(4), 1);
        B.outside("15: cell", (pond, n) -> pond.reach(n), 0, 15, NONE);
    }

    /**
     * Promise 15: "REACH of a CELL: of all ways from some CELL of SHORE to one NEAR it (CELL by CELL NEAR one another;
     * that CELL itself not among them; a CELL of SHORE itself: no way)"
     */
    private static void waysGoByCellsNearOneAnother() {
        due("15: 3 and 4 are not near", way(50, 3).reach(4), NEVER);
        due("15: 0 and 5 are not near", way(50, 0).reach(5), NEVER);
        due("15: 7 and 8 are not near", way(50, 3, 7).reach(8), NEVER);
        due("15: 0 and 12 are not near", way(50, 0).reach(12), NEVER);
        due("15: 12 and 0 are not near", way(50, 12, 8, 4).reach(0), 0);
        due("15: 7 and 12 are not near", way(50, 3, 7, 12).reach(13), NEVER);
        IceBears pond = way(50, 0, 4, 8);
        for (int cell = 4; cell <= 8; cell += 4) pond.lay(cell, 0, 0, 0);
        due("15: that cell itself need not bear", pond.reach(4), 1);
        due("15: those on the way must", pond.reach(8), NEVER);
        due("15: it is not among them: no way leads through it and back", way(50, 1, 5, 9).reach(5), 1);
        due("15: along the shore", way(50, 0, 1, 2, 6).reach(10), 2);
    }

    /** Promise 15: "on which each CELL would bear one more CHILD (as many on it as are, and one)" */
    private static void eachCellOnTheWayBearsOneMore() {
        int[][] childrenNearThick = {{0, 0, 5}, {1, 0, 7}, {0, 1, 6}, {0, 2, 7}, {0, 9, 11}, {9, 0, 15}, {9, 9, 18}};
        for (int[] row : childrenNearThick) {
            IceBears pond = new IceBears();
            pond.children(0, row[0]);
            pond.children(1, row[1]);
            pond.lay(0, row[2] - 1, 0, 0);
            due("15: one less than " + row[2], pond.reach(4), NEVER);
            pond.lay(0, row[2], 0, 0);
            due("15: so thick as " + row[2], pond.reach(4), 1);
        }
        IceBears two = way(5, 0, 4);
        due("15: one more in one cell at a time", two.reach(8), 2);
        due("15: under bears 0, thick 1 is too thin", bearing0(1).reach(4), NEVER);
        due("15: under bears 0, thick 2 is not", bearing0(2).reach(4), 1);
        due("15: thick 0 bears none more", bearing0(0).reach(4), NEVER);
    }

    private static IceBears bearing0(int thick) {
        IceBears pond = under("bears 0");
        pond.lay(0, thick, 0, 0);
        return pond;
    }

    /** Promise 15: "how many CELLS the shortest has (0 for a CELL of SHORE; -5: none)." */
    private static void theShortestWayFrom1To9Cells() {
        int[] snake = {3, 7, 6, 5, 4, 8, 12, 13, 14};
        int[] ends = {7, 6, 5, 4, 8, 12, 13, 14, 15};
        for (int cells = 1; cells <= 9; cells++) {
            IceBears pond = new IceBears();
            for (int i = 0; i < cells; i++) pond.lay(snake[i], 9, 0, 0);
            due("15: a way of " + cells, pond.reach(ends[cells - 1]), cells);
            pond.lay(snake[cells / 2], 4, 0, 0);
            due("15: one cell of it too thin", pond.reach(ends[cells - 1]), NEVER);
        }
        IceBears round = new IceBears();
        for (int cell : snake) round.lay(cell, 9, 0, 0);
        round.lay(11, 9, 0, 0);
        due("15: of two ways the shorter", round.reach(15), 3);
        B.unchanged("15: reach 15", Ponds::full, pond -> pond.reach(15), 3);
    }

    // ---- sweep

    /**
     * Promise 16: "SWEEP of n HOURS (1 .. 99): the CELL of which THICK would be most more behind them"
     * Promise 16: "SWEEP: what 0 the CELL, 1 how much. NONE; BAD."
     */
    private static void sweepLooksFrom1To99HoursAhead() {
        // 40 of frost on 10 thick: 800 by 50 is 16 under 4 of snow, 800 by 30 is 26 without.
        IceBears first = under("frost 40 d=0&h=0");
        first.lay(3, 10, 0, 4);
        due("16: the cell, behind 1", first.sweep(1, 0), 3);
        due("16: how much, behind 1", first.sweep(1, 1), 10);
        IceBears last = under("frost 40 d=4&h=2;frost 99 d=4&h=3");
        last.lay(3, 10, 0, 4);
        due("16: the cell, behind 98", last.sweep(98, 0), 0);
        due("16: how much, behind 98", last.sweep(98, 1), 0);
        due("16: the cell, behind 99", last.sweep(99, 0), 3);
        due("16: how much, behind 99", last.sweep(99, 1), 10);
        B.outside("16: n", (pond, n) -> pond.sweep(n, 0), 1, 99, BAD);
        B.outside("16: n", (pond, n) -> pond.sweep(n, 1), 1, 99, BAD);
        B.outside("16: what", (pond, n) -> pond.sweep(1, n), 0, 1, NONE);
        B.refused("16: n 0, what 2", pond -> pond.sweep(0, 2), NONE);
        B.refused("16: n 100, what -1", pond -> pond.sweep(100, -1), NONE);
        B.unchanged("16: sweep 99", Ponds::full, pond -> pond.sweep(99, 0), 0);
    }

    /** Promise 16: "if its SNOW were taken away now (of several the least); how much more (may be below 0)." */
    private static void sweepingMayHelpOrHarm() {
        for (int cell = 0; cell < 16; cell++) {
            IceBears frost = under("frost 40 h<24");
            frost.lay(cell, 10, 0, 4);
            due("16: one cell alone has snow", frost.sweep(1, 0), cell);
            frost.lay(15, 10, 0, 4);
            due("16: of two the least", frost.sweep(1, 0), cell);
            frost.lay(15, 10, 0, 6);
            due("16: unless the other gains more: 26 and not 13", frost.sweep(1, 1), 13);
            due("16: there", frost.sweep(1, 0), 15);
            IceBears thaw = under("thaw 1 h<24");
            for (int other = 0; other < 16; other++) thaw.lay(other, 20, 0, 1);
            due("16: worse by 1 everywhere", thaw.sweep(1, 1), -1);
            due("16: the least of all", thaw.sweep(1, 0), 0);
            thaw.lay(cell, 20, 0, 0);
            due("16: no worse in one", thaw.sweep(1, 1), 0);
            due("16: that one", thaw.sweep(1, 0), cell);
        }
        IceBears more = under("thaw 9 h<24");
        for (int cell = 0; cell < 16; cell++) more.lay(cell, 20, 0, 99);
        due("16: worse by 9 in an hour", more.sweep(1, 1), -9);
        due("16: worse by all there is in 3", more.sweep(3, 1), -20);
        due("16: when all is gone it is alike", more.sweep(99, 1), 0);
        due("16: nothing to sweep", even("frost 9 h<24", 20).sweep(9, 1), 0);
    }

    // ---- lamp

    /** Promise 17: "LAMP of n HOURS (1 .. 99): the CELL at which a lamp" Promise 17: "LAMP: the CELL. BAD." */
    private static void aLampBurnsFrom1To99Hours() {
        IceBears one = new IceBears();
        one.lay(0, 3, 0, 0);
        one.lay(15, 4, 0, 0);
        due("17: 3 and 3 behind 1", one.lamp(1), 0);
        due("17: 3 and 4 behind 2", one.lamp(2), 11);
        IceBears long98 = new IceBears();
        long98.lay(0, 3 * 98, 0, 0);
        long98.lay(15, 3 * 99, 0, 0);
        due("17: 294 and 294 behind 98", long98.lamp(98), 0);
        due("17: 294 and 297 behind 99", long98.lamp(99), 11);
        B.outside("17: n", (pond, n) -> pond.lamp(n), 1, 99, BAD);
        B.unchanged("17: lamp 99", Ponds::full, pond -> pond.lamp(99), 0);
    }

    /** Promise 17: "(COLD 3 less there and in CELLS NEAR it in each of these HOURS)" */
    private static void aLampTakesThreeOfTheCold() {
        IceBears two = new IceBears();
        two.lay(0, 2, 0, 0);
        two.lay(15, 3, 0, 0);
        due("17: more than 2", two.lamp(1), 11);
        IceBears four = new IceBears();
        four.lay(0, 3, 0, 0);
        four.lay(15, 4, 0, 0);
        due("17: less than 4", four.lamp(1), 0);
        // A spring kept by 4 is open in COLD below 8, which is frost less 4, and 3 less by the lamp.
        int[] frosts = {11, 12, 14, 15};
        int[] lamps = {0, 11, 11, 0};
        for (int i = 0; i < frosts.length; i++) {
            IceBears kept = even("frost " + frosts[i] + " h<24", 999);
            kept.place(15, 6, 4);
            due("17: kept by 4 in " + frosts[i], kept.lamp(1), lamps[i]);
        }
    }

    /** Promise 17: "would leave least THICK behind them, of all CELLS together; of several the least." */
    private static void aLampLightsThoseNearIt() {
        int[][] near = {{1, 4}, {0, 2, 5}, {1, 3, 6}, {2, 7}, {0, 5, 8}, {1, 4, 6, 9}, {2, 5, 7, 10}, {3, 6, 11},
            {4, 9, 12}, {5, 8, 10, 13}, {6, 9, 11, 14}, {7, 10, 15}, {8, 13}, {9, 12, 14}, {10, 13, 15}, {11, 14}};
        for (int cell = 0; cell < 16; cell++) {
            IceBears pond = new IceBears();
            pond.lay(cell, 50, 0, 0);
            int least = Math.min(cell, near[cell][0]);
            due("17: the least that lights " + cell, pond.lamp(1), least);
            for (int other : near[cell]) pond.lay(other, 50, 0, 0);
            due("17: at " + cell + " itself, with all near it", pond.lamp(1), cell);
        }
        for (int cell = 0; cell < 16; cell++) {
            for (int other = 0; other < cell; other++) litTogether(near, other, cell);
        }
        due("17: all alike without ice", new IceBears().lamp(99), 0);
        IceBears white = new IceBears();
        white.lay(0, 0, 1, 0);
        white.lay(15, 0, 2, 0);
        due("17: white 1 is no thickness", white.lamp(1), 11);
    }

    /** Ice at two cells alone: the least lamp that lights both, or else the least that lights either. */
    private static void litTogether(int[][] near, int one, int other) {
        IceBears pond = new IceBears();
        pond.lay(one, 50, 0, 0);
        pond.lay(other, 50, 0, 0);
        int both = -1, either = -1;
        for (int lamp = 15; lamp >= 0; lamp--) {
            boolean isOne = lamp == one, isOther = lamp == other;
            for (int cell : near[lamp]) {
                if (cell == one) isOne = true;
                if (cell == other) isOther = true;
            }
            if (isOne && isOther) both = lamp;
            if (isOne || isOther) either = lamp;
        }
        due("17: ice at " + one + " and " + other, pond.lamp(1), both >= 0 ? both : either);
    }

    // ---- board

    /**
     * Promise 18: "BOARD by n HOURS (1 .. 240) and a sum s (0 .. 999)"
     * Promise 18: "BOARD: what 0 GREEN, 1 WRONG, 2 BEST (-5). NONE; BAD."
     */
    private static void aBoardLooksFrom1To240HoursAhead() {
        IceBears first = under("frost 7 d=0&h=0");
        due("18: green behind 1", first.board(1, 7, 0), 1);
        due("18: green behind 2 as well", first.board(2, 7, 0), 2);
        IceBears last = under("frost 7 d=9&h=23;frost 9 d=10&h=0");
        due("18: not green behind 239", last.board(239, 1, 0), 0);
        due("18: green behind 240", last.board(240, 1, 0), 1);
        due("18: and by 7 alone", last.board(240, 8, 0), 0);
        last.go(240);
        due("18: from now on", last.board(1, 9, 0), 1);
        due("18: and not from the beginning", last.board(1, 10, 0), 0);
        for (int what = 0; what < 3; what++) {
            int one = what;
            B.outside("18: n, what " + what, (pond, n) -> pond.board(n, 1, one), 1, 240, BAD);
            B.outside("18: s, what " + what, (pond, n) -> pond.board(1, n, one), 0, 999, BAD);
        }
        B.outside("18: what", (pond, n) -> pond.board(1, 1, n), 0, 2, NONE);
        B.refused("18: n 0, what 3", pond -> pond.board(0, 0, 3), NONE);
        B.refused("18: s 1000, what -1", pond -> pond.board(1, 1000, -1), NONE);
        B.unchanged("18: board 240", IceBears::new, pond -> pond.board(240, 0, 0), 240);
    }

    /**
     * Promise 18: "green in the HOURS behind which the FROST of all HOURS from now on (those below 0, too) is s or
     * more. GREEN: how many HOURS"
     */
    private static void greenFromTheSumOn() {
        due("18: 0 is 0 or more", new IceBears().board(1, 0, 0), 1);
        due("18: 0 is not 1 or more", new IceBears().board(1, 1, 0), 0);
        due("18: -1 is not", under("thaw 1 h=0").board(1, 0, 0), 0);
        IceBears pond = under("frost 9 h=0;thaw 4 h=1;frost 3 h=2");
        // The sums are 9, 5, 8, 8.
        int[] sums = {0, 5, 6, 8, 9, 10};
        int[] greens = {4, 4, 3, 3, 1, 0};
        for (int i = 0; i < sums.length; i++) due("18: green by " + sums[i], pond.board(4, sums[i], 0), greens[i]);
        String nine = "frost 99 h<10;frost 9 h=10";
        due("18: 999", under(nine).board(11, 999, 0), 1);
        due("18: 998 is not 999", under("frost 99 h<10;frost 8 h=10").board(11, 999, 0), 0);
        due("18: 998", under("frost 99 h<10;frost 8 h=10").board(11, 998, 0), 1);
        due("18: above 999 too", under("frost 99 h<24").board(20, 999, 0), 10);
    }

    /** Promise 18: "WRONG: how many of these are such that some CELL would not bear the CHILDREN as they are" */
    private static void wrongWhereSomeCellDoesNotBear() {
        // One child in a corner, 2 on thick times thick by ten: 5 bears it, 4 does not.
        IceBears pond = under("frost 5 d=0&h=0;thaw 1 d=0&h=1;frost 1 d=0&h=2");
        pond.children(0, 1);
        pond.lay(1, 50, 0, 0);
        pond.lay(4, 50, 0, 0);
        due("18: 5 thick is not wrong", pond.board(1, 0, 1), 0);
        due("18: 4 thick is", pond.board(2, 0, 1), 1);
        due("18: wrong by 4", pond.board(2, 4, 1), 1);
        due("18: not green by 5, so not wrong", pond.board(2, 5, 1), 0);
        due("18: 20 by 24 is no more, so wrong again", pond.board(3, 5, 1), 1);
        pond.lay(1, 0, 0, 99);
        due("18: a cell beside, with load alone and too much snow to freeze", pond.board(1, 0, 1), 1);
        pond.lay(1, 0, 0, 0);
        due("18: as it is it would not bear, behind the hour it does", pond.board(1, 0, 1), 0);
        due("18: without children none is", new IceBears().board(240, 0, 1), 0);
        for (int cell = 0; cell < 16; cell++) {
            IceBears one = even("bears 10", 50);
            one.children(cell, 9);
            due("18: all bear", one.board(1, 0, 1), 0);
            one.lay(cell, 13, 0, 0);
            due("18: 16 on 18 in one, " + cell, one.board(1, 0, 1), 1);
            one.lay(cell, 14, 0, 0);
            due("18: 19 on 18 in one, " + cell, one.board(1, 0, 1), 0);
        }
    }

    /**
     * Promise 18: "BEST: the least s (0 .. 999) with which none is WRONG (-5: none; no HOURS green is none WRONG)."
     */
    private static void theBestSumIsFrom0To999() {
        String[] winters = {"thaw 1 h=0", "bears 10", "frost 1 h=0", "frost 2 h=0", "frost 99 h<10;frost 7 h=10",
            "frost 99 h<10;frost 8 h=10", "frost 99 h<10;frost 9 h=10", "frost 99 h<10;frost 10 h=10"};
        int[] best = {0, 1, 2, 3, 998, 999, NEVER, NEVER};
        for (int i = 0; i < winters.length; i++) {
            IceBears pond = under(winters[i]);
            pond.children(0, 1);
            pond.place(0, 6, 9);
            pond.lay(0, 0, 0, 99);
            due("18: best under \"" + winters[i] + "\"", pond.board(i < 4 ? 1 : 11, 0, 2), best[i]);
            due("18: s does not matter", pond.board(i < 4 ? 1 : 11, 999, 2), best[i]);
        }
        due("18: none is wrong at all", even("frost 9 h<24", 50).board(240, 0, 2), 0);
    }

    // ---- rope

    /**
     * Promise 19: "ROPE: the greatest k (0 .. 4) such that, CHILDREN in columns from k on being gone, THEY FALL
     * nowhere."
     * Promise 19: "int rope(): ROPE."
     */
    private static void theRopeLeavesNoneToAllColumns() {
        due("19: nobody there", new IceBears().rope(), 4);
        for (int cell = 0; cell < 16; cell++) {
            IceBears pond = new IceBears();
            pond.children(cell, 1);
            due("19: one on open water at " + cell, pond.rope(), cell % 4);
            pond.lay(cell, 5, 0, 0);
            due("19: borne", pond.rope(), 4);
            pond.lay(cell, 4, 0, 0);
            due("19: not borne", pond.rope(), cell % 4);
        }
    }

    /** Promise 19: "CHILDREN in columns from k on being gone" */
    private static void thoseGoneWeighNoMore() {
        for (int column = 1; column < 4; column++) {
            IceBears pond = new IceBears();
            // The one in the column ahead is borne alone, and not with one near it.
            pond.children(4 + column - 1, 1);
            pond.lay(4 + column - 1, 5, 0, 0);
            pond.children(4 + column, 1);
            pond.lay(4 + column, 50, 0, 0);
            due("19: 3 on 2 in column " + (column - 1), pond.rope(), column);
            pond.lay(4 + column - 1, 6, 0, 0);
            due("19: 3 on 3", pond.rope(), 4);
        }
        IceBears all = new IceBears();
        for (int cell = 0; cell < 16; cell++) all.children(cell, 9);
        due("19: all on open water", all.rope(), 0);
        B.unchanged("19: all borne", Ponds::full, IceBears::rope, 4);
    }

    public static void main(String[] args) {
        whenIsFrom0To240Hours();
        theFirstHourIsMeantAndEveryCell();
        oneToNineChildrenInEach();
        whenRefusesOtherNumbers();
        thinLooksFrom0To99HoursAhead();
        theLeastOfTheThinnestIsMeant();
        halfAsThickOrLess();
        thinNamesWhatAheadOfHours();
        theShoreIsTheFirstRow();
        waysGoByCellsNearOneAnother();
        eachCellOnTheWayBearsOneMore();
        theShortestWayFrom1To9Cells();
        sweepLooksFrom1To99HoursAhead();
        sweepingMayHelpOrHarm();
        aLampBurnsFrom1To99Hours();
        aLampTakesThreeOfTheCold();
        aLampLightsThoseNearIt();
        aBoardLooksFrom1To240HoursAhead();
        greenFromTheSumOn();
        wrongWhereSomeCellDoesNotBear();
        theBestSumIsFrom0To999();
        theRopeLeavesNoneToAllColumns();
        thoseGoneWeighNoMore();
        B.end();
    }
}
