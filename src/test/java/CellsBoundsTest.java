/** Promises 1 to 5, sentence by sentence: what is so at each bound, one below it and one above it. */
final class CellsBoundsTest {
    private static final Bounds B = new Bounds("CellsBoundsTest");
    private static final int NONE = IceBears.NONE, BAD = IceBears.BAD;

    private static void due(String call, long got, long want) {
        B.due(call, got, want);
    }

    /** Promise 1: "Open water, no WINTER." */
    private static void aNewPondIsOpenWaterAndHasNoWinter() {
        IceBears pond = new IceBears();
        for (int cell = 0; cell < 16; cell++) due("1: thick " + cell, pond.of(cell, 3), 0);
        due("1: winters", pond.count(0), 0);
        due("1: off 0", pond.off(0), NONE);
        due("1: likely", pond.likely(), -5);
        for (int hour = 0; hour < 1000; hour += 37) due("1: no frost at " + hour, pond.told(hour, 0), 0);
        pond.go(240);
        for (int cell = 0; cell < 16; cell++) due("1: thick " + cell + " by no winter", pond.of(cell, 3), 0);
        due("1: the first winter is number 0", Check.read(pond, "bears 1"), 0);
    }

    /**
     * Promises 1, 2: "Each has CLEAR and WHITE ice (tenths of a finger, 0 .. 999 each), SNOW (0 .. 99); 0 at first."
     */
    private static void clearWhiteAndSnowHaveTheirBounds() {
        for (int cell = 0; cell < 16; cell++) {
            IceBears pond = new IceBears();
            for (int what = 0; what < 3; what++) due("1: of " + cell + " " + what, pond.of(cell, what), 0);
            due("2: the least over the least", pond.lay(cell, 0, 0, 0), 0);
            due("2: the most", pond.lay(cell, 999, 999, 99), 0);
            due("2: clear 999", pond.of(cell, 0), 999);
            due("2: white 999", pond.of(cell, 1), 999);
            due("2: snow 99", pond.of(cell, 2), 99);
            due("2: the least over the most", pond.lay(cell, 0, 0, 0), 1498);
            for (int what = 0; what < 3; what++) due("2: of " + cell + " " + what, pond.of(cell, what), 0);
        }
        B.outside("2: clear", (pond, n) -> pond.lay(2, n, 1, 1), 0, 999, BAD);
        B.outside("2: white", (pond, n) -> pond.lay(2, 1, n, 1), 0, 999, BAD);
        B.outside("2: snow", (pond, n) -> pond.lay(2, 1, 1, n), 0, 99, BAD);
    }

    /** Promises 2, 3, 4: "CELLS 0 .. 15 (four rows of four: CELL 4 r + c)." */
    private static void cellsAreSixteen() {
        for (int cell = 0; cell < 16; cell++) {
            IceBears pond = new IceBears();
            due("2: lay " + cell, pond.lay(cell, 5, 4, 3), 0);
            due("4: children " + cell, pond.children(cell, 2), 0);
            for (int other = 0; other < 16; other++) {
                due("3: clear " + other + " beside " + cell, pond.of(other, 0), other == cell ? 5 : 0);
                due("3: children " + other + " beside " + cell, pond.of(other, 6), other == cell ? 2 : 0);
            }
        }
        B.outside("2: cell", (pond, n) -> pond.lay(n, 1, 1, 1), 0, 15, NONE);
        B.outside("3: cell", (pond, n) -> pond.of(n, 0), 0, 15, NONE);
        B.outside("4: cell", (pond, n) -> pond.children(n, 1), 0, 15, NONE);
    }

    /** Promise 2: "A CELL has so much CLEAR, WHITE ice, SNOW: how THICK it was. NONE; BAD." */
    private static void layNamesNoneAheadOfBad() {
        B.refused("2: cell -1, clear -1", pond -> pond.lay(-1, -1, 0, 0), NONE);
        B.refused("2: cell 16, white 1000", pond -> pond.lay(16, 0, 1000, 0), NONE);
        B.refused("2: cell 16, snow 100", pond -> pond.lay(16, 0, 0, 100), NONE);
        IceBears pond = new IceBears();
        due("2: it was none", pond.lay(7, 1, 1, 99), 0);
        due("2: it was 1, snow and white 1 not counted", pond.lay(7, 0, 2, 0), 1);
        due("2: it was 1 of white 2", pond.lay(7, 0, 0, 0), 1);
        due("2: it was none again", pond.lay(7, 3, 3, 3), 0);
    }

    /** Promises 2, 3: "THICK: CLEAR, and half of WHITE (cut)." */
    private static void halfOfWhiteIsCut() {
        int[][] clearWhiteThick = {{0, 0, 0}, {0, 1, 0}, {0, 2, 1}, {0, 3, 1}, {0, 4, 2}, {1, 0, 1}, {7, 1, 7},
            {7, 2, 8}, {0, 997, 498}, {0, 998, 499}, {0, 999, 499}, {999, 0, 999}, {999, 1, 999}, {999, 999, 1498}};
        IceBears pond = new IceBears();
        int was = 0;
        for (int[] row : clearWhiteThick) {
            due("2: was", pond.lay(9, row[0], row[1], 50), was);
            due("3: thick of " + row[0] + ", " + row[1], pond.of(9, 3), row[2]);
            was = row[2];
        }
    }

    /**
     * Promise 3: "Of a CELL what 0 CLEAR, 1 WHITE, 2 SNOW, 3 THICK, 4 LOAD, 5 whether it BEARS, 6 CHILDREN. NONE."
     */
    private static void ofHasSevenAnswers() {
        IceBears pond = new IceBears();
        pond.lay(15, 11, 13, 17);
        pond.children(15, 2);
        pond.children(14, 3);
        int[] all = {11, 13, 17, 17, 7, 1, 2};
        for (int what = 0; what < 7; what++) due("3: what " + what, pond.of(15, what), all[what]);
        B.outside("3: what", (rich, n) -> rich.of(0, n), 0, 6, NONE);
        B.refused("3: cell and what", rich -> rich.of(16, 7), NONE);
        for (int what = 0; what < 7; what++) {
            int one = what;
            B.refused("3: cell 16, what " + what, rich -> rich.of(16, one), NONE);
        }
    }

    /** Promise 4: "CHILDREN: in each CELL some (0 .. 9; 0 at first)." */
    private static void childrenHaveTheirBounds() {
        for (int cell = 0; cell < 16; cell++) {
            IceBears pond = new IceBears();
            due("4: none at first", pond.of(cell, 6), 0);
            due("4: nine", pond.children(cell, 9), 0);
            due("4: nine are there", pond.of(cell, 6), 9);
            due("4: none", pond.children(cell, 0), 9);
            due("4: none are there", pond.of(cell, 6), 0);
        }
        B.outside("4: n", (pond, n) -> pond.children(3, n), 0, 9, BAD);
    }

    /** Promise 4: "CHILDREN of a CELL become n (0 .. 9): how many there were. NONE; BAD." */
    private static void childrenNamesNoneAheadOfBad() {
        B.refused("4: cell 16, n 10", pond -> pond.children(16, 10), NONE);
        B.refused("4: cell -1, n -1", pond -> pond.children(-1, -1), NONE);
        IceBears pond = new IceBears();
        for (int n = 0; n <= 9; n++) due("4: how many there were", pond.children(0, n), Math.max(0, n - 1));
    }

    /** Promise 3: "NEAR: CELLS next to one another in a row or in a column." */
    private static void nearEndsWhereARowEnds() {
        int[][] near = {{1, 4}, {0, 2, 5}, {1, 3, 6}, {2, 7}, {0, 5, 8}, {1, 4, 6, 9}, {2, 5, 7, 10}, {3, 6, 11},
            {4, 9, 12}, {5, 8, 10, 13}, {6, 9, 11, 14}, {7, 10, 15}, {8, 13}, {9, 12, 14}, {10, 13, 15}, {11, 14}};
        for (int cell = 0; cell < 16; cell++) {
            IceBears pond = new IceBears();
            pond.children(cell, 1);
            int[] loads = new int[16];
            loads[cell] = 2;
            for (int other : near[cell]) loads[other] = 1;
            for (int other = 0; other < 16; other++) {
                due("3: load of " + other + " by " + cell, pond.of(other, 4), loads[other]);
            }
        }
    }

    /** Promise 3: "LOAD of a CELL: 2 for each of its own, 1 for each in a CELL NEAR it." */
    private static void loadFromNoneToAll() {
        IceBears pond = new IceBears();
        for (int cell = 0; cell < 16; cell++) due("3: no load of " + cell, pond.of(cell, 4), 0);
        for (int cell = 0; cell < 16; cell++) pond.children(cell, 9);
        int[] loads = {36, 45, 45, 36, 45, 54, 54, 45, 45, 54, 54, 45, 36, 45, 45, 36};
        for (int cell = 0; cell < 16; cell++) due("3: the most load of " + cell, pond.of(cell, 4), loads[cell]);
        pond.children(5, 8);
        due("3: one less of its own", pond.of(5, 4), 52);
        due("3: one less near", pond.of(4, 4), 44);
    }

    private static void bears(String winter, int clear, int own, int near, int want) {
        IceBears pond = new IceBears();
        Check.read(pond, winter);
        pond.lay(0, clear, 0, 0);
        pond.children(0, own);
        pond.children(1, near);
        due("3: " + clear + " thick under \"" + winter + "\", load " + (2 * own + near), pond.of(0, 5), want);
    }

    /**
     * Promise 3: "It BEARS, if THICK times THICK by bears (0 as 1; cut) is LOAD or more, THICK being above 0 (or there
     * is no LOAD)."
     */
    private static void bearingHasItsBound() {
        bears("bears 10", 9, 5, 0, 0);
        bears("bears 10", 10, 5, 0, 1);
        bears("bears 10", 10, 5, 1, 0);
        bears("bears 10", 10, 4, 1, 1);
        bears("bears 10", 4, 1, 0, 0);
        bears("bears 10", 5, 1, 0, 1);
        bears("bears 10", 3, 0, 1, 0);
        bears("bears 10", 4, 0, 1, 1);
        bears("bears 0", 1, 0, 1, 1);
        bears("bears 0", 1, 1, 0, 0);
        bears("bears 0", 2, 2, 0, 1);
        bears("bears 0", 2, 2, 1, 0);
        bears("bears 1", 2, 2, 0, 1);
        bears("bears 1", 2, 2, 1, 0);
        bears("bears 2", 2, 1, 0, 1);
        bears("bears 2", 2, 1, 1, 0);
        bears("bears 99", 99, 9, 9, 1);
        bears("bears 99", 51, 9, 8, 1);
        bears("bears 99", 51, 9, 9, 0);
        bears("bears 99", 9, 0, 1, 0);
        bears("bears 99", 10, 0, 1, 1);
        bears("bears 0", 999, 9, 9, 1);
    }

    /** Promise 3: "THICK being above 0 (or there is no LOAD)." */
    private static void noIceBearsNoLoadAlone() {
        bears("bears 0", 0, 0, 1, 0);
        bears("bears 0", 0, 1, 0, 0);
        bears("bears 0", 0, 0, 0, 1);
        bears("bears 99", 0, 0, 0, 1);
        bears("bears 99", 1, 0, 0, 1);
        IceBears pond = new IceBears();
        Check.read(pond, "bears 0");
        pond.children(1, 1);
        pond.lay(0, 0, 1, 99);
        due("3: white 1 is 0 thick", pond.of(0, 5), 0);
        pond.lay(0, 0, 2, 99);
        due("3: white 2 is 1 thick", pond.of(0, 5), 1);
    }

    /** Promise 5: "THEY FALL: CELLS with CHILDREN that don't bear." */
    private static void theyFallFromNoneToAll() {
        IceBears pond = new IceBears();
        due("5: none are there", pond.fall(), 0);
        for (int cell = 0; cell < 16; cell++) {
            IceBears one = new IceBears();
            one.children(cell, 1);
            due("5: one in " + cell + ", those near have a load and no children", one.fall(), 1 << cell);
            one.lay(cell, 4, 0, 0);
            due("5: 2 on 1 in " + cell, one.fall(), 1 << cell);
            one.lay(cell, 5, 0, 0);
            due("5: 2 on 2 in " + cell, one.fall(), 0);
        }
        for (int cell = 0; cell < 16; cell++) pond.children(cell, 1);
        due("5: all", pond.fall(), 0xFFFF);
        for (int cell = 0; cell < 16; cell++) pond.lay(cell, 7, 0, 0);
        due("5: 49 by 10 is 4, as much as a corner's load", pond.fall(), 0xFFFF & ~0x9009);
    }

    /** Promise 5: "THEY FALL, as bits of CELLS." */
    private static void fallIsAskedAndChangesNothing() {
        B.unchanged("5: all of a full pond are borne", Ponds::full, IceBears::fall, 0);
        B.unchanged("5: nobody there", IceBears::new, IceBears::fall, 0);
    }

    public static void main(String[] args) {
        aNewPondIsOpenWaterAndHasNoWinter();
        clearWhiteAndSnowHaveTheirBounds();
        cellsAreSixteen();
        layNamesNoneAheadOfBad();
        halfOfWhiteIsCut();
        ofHasSevenAnswers();
        childrenHaveTheirBounds();
        childrenNamesNoneAheadOfBad();
        nearEndsWhereARowEnds();
        loadFromNoneToAll();
        bearingHasItsBound();
        noIceBearsNoLoadAlone();
        theyFallFromNoneToAll();
        fallIsAskedAndChangesNothing();
        B.end();
    }
}
