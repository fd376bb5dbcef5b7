/** Promises 29 to 32, sentence by sentence: what is so at each bound, one below it and one above it. */
final class ActsBoundsTest {
    private static final Bounds B = new Bounds("ActsBoundsTest");
    private static final int NONE = IceBears.NONE, BAD = IceBears.BAD, NOTHING = -11, CAST = -12;
    private static final int MOST = Integer.MAX_VALUE, LEAST = Integer.MIN_VALUE;
    /** The bodies that run, by kind and act. */
    private static final int[][][] TRACES = {
        {{10}, {11, 10}, {12, 11, 10}},
        {{10}, {20, 11, 10}, {12, 20, 11, 10}},
        {{30, 10}, {11, 30, 10}, {12, 11, 30, 10}},
        {{50, 10}, {51, 11, 50, 10}, {12, 51, 11, 50, 10}},
        {{10}, {11, 10}, {40, 12, 11, 10, 11, 10}},
        {{30, 10}, {11, 30, 10}, {60, 12, 11, 30, 10}},
        {{71, 50, 10}, {70, 51, 11, 71, 50, 10, 50, 10}, {12, 70, 51, 11, 71, 50, 10, 50, 10}}};

    private static void due(String call, long got, long want) {
        B.due(call, got, want);
    }

    private static IceBears with(int cell, int kind, int v) {
        IceBears pond = new IceBears();
        pond.place(cell, kind, v);
        return pond;
    }

    // ---- act

    private static void freezes(int kind, int v, int x, int want) {
        due("29: kind " + kind + " with " + v + " freezes " + x, with(5, kind, v).act(5, 0, x), want);
    }

    private static void goes(int kind, int v, int x, int want) {
        due("29: kind " + kind + " with " + v + " goes " + x, with(5, kind, v).act(5, 1, x), want);
    }

    private static void tells(int kind, int v, int x, int want) {
        due("29: kind " + kind + " with " + v + " tells " + x, with(5, kind, v).act(5, 2, x), want);
    }

    /** Promise 29: "ACTS of the PLACE of a CELL with x (wrapping): 0 freezes, 1 goes, 2 tells; i its CELL." */
    private static void freezingWraps() {
        freezes(0, 0, MOST - 5, MOST);
        freezes(0, 0, MOST - 4, LEAST);
        freezes(0, 0, MOST, LEAST + 4);
        freezes(0, 0, LEAST, LEAST + 5);
        freezes(2, 0, 715827880, 2147483645);
        freezes(2, 0, 715827881, LEAST);
        freezes(2, 0, MOST, MOST - 2 + 5);
        freezes(2, 0, LEAST, LEAST + 5);
        freezes(3, 0, LEAST - 5, LEAST);
        freezes(3, 0, LEAST - 4, MOST);
        freezes(3, 0, MOST - 5, -MOST);
        freezes(6, 9, LEAST - 5, LEAST ^ 9);
        freezes(6, 9, LEAST - 4, MOST ^ 9);
        freezes(6, 0, MOST - 5, -MOST);
    }

    /** Promise 29: "ACTS of the PLACE of a CELL with x (wrapping): 0 freezes, 1 goes, 2 tells; i its CELL." */
    private static void goingWraps() {
        goes(0, 9, LEAST + 4, LEAST);
        goes(0, 9, LEAST + 3, MOST);
        goes(0, 9, MOST, MOST - 4);
        goes(1, 9, LEAST + 3, MOST ^ 6);
        goes(1, 0, MOST - 4, LEAST ^ 6);
        goes(2, 9, 715827881, MOST - 8);
        goes(3, 0, MOST, -(LEAST + 5));
        goes(3, 9, LEAST - 6, LEAST - 9);
        // 51 makes x 1 more, 71 and 50 make -(x + 1 + i) ^ v of it, 11 takes v; and -(2 + i) comes to it.
        goes(6, 0, MOST, -(LEAST + 5) - 7);
        goes(6, 9, LEAST - 6, (LEAST ^ 9) - 9 - 7);
    }

    /** Promise 29: "ACTS of the PLACE of a CELL with x (wrapping): 0 freezes, 1 goes, 2 tells; i its CELL." */
    private static void tellingWraps() {
        tells(0, 0, 1073741818, 2147483646);
        tells(0, 0, 1073741819, LEAST);
        tells(0, 9, LEAST, -8);
        tells(0, 0, MOST, 8);
        tells(4, 0, MOST, 8 + 6);
        tells(4, 9, 1073741827, 2147483646 - 3);
        tells(4, 9, 1073741828, LEAST - 3);
        tells(5, 0, LEAST, 2 * (3 * (LEAST - 5) + 5));
        tells(5, 0, LEAST + 5, 10);
        tells(6, 0, MOST, 2 * (-(LEAST + 5) - 7));
    }

    /**
     * Promise 29: "An ACT (0 freezes, 1 goes, 2 tells) of the PLACE of a CELL with x. 0, and no TRACE then: no such
     * CELL, act."
     */
    private static void noSuchCellOrActRunsNothing() {
        int[] cells = {-1, 16, LEAST, MOST};
        for (int cell : cells) for (int act = 0; act < 3; act++) runsNothing(cell, act);
        int[] acts = {-1, 3, LEAST, MOST};
        for (int act : acts) for (int cell = 0; cell < 16; cell += 15) runsNothing(cell, act);
        runsNothing(16, 3);
        for (int cell = 0; cell < 16; cell++) {
            for (int act = 0; act < 3; act++) {
                IceBears pond = with(cell, 6, 9);
                due("29: cell " + cell + ", act " + act, pond.act(cell, act, -cell) == 0 ? 1 : 0, 0);
                due("30: it ran " + cell + ", " + act, pond.trace(0), TRACES[6][act][0]);
            }
        }
    }

    private static void runsNothing(int cell, int act) {
        IceBears pond = Ponds.rich();
        due("30: a trace is there", pond.trace(0), 12);
        due("29: cell " + cell + ", act " + act, pond.act(cell, act, 7), 0);
        for (int i = 0; i < 20; i++) due("30: no trace then, " + i, pond.trace(i), NONE);
        due("32: none ran", pond.count(4), 0);
        // Another that runs nothing leaves a pond that shows the same: nothing but the trace has changed.
        IceBears other = Ponds.rich();
        other.act(-1, -1, 0);
        pond = Ponds.rich();
        pond.act(cell, act, 7);
        B.holds("29: nothing but the trace has changed", Ponds.shown(pond).equals(Ponds.shown(other)));
        IceBears untraced = Ponds.rich();
        untraced.act(0, 0, 0);
        pond = Ponds.rich();
        pond.act(cell, act, 7);
        pond.act(0, 0, 0);
        B.holds("29: nothing at all, once another ran", Ponds.shown(pond).equals(Ponds.shown(untraced)));
    }

    /**
     * Promise 29: "freezes(..) and so on: the body of its KIND, or, if that has none, of the next KIND above that has
     * one; super.freezes(..): so from the KIND above the body's on; all that stands in a body is done from the left on."
     */
    private static void eachKindHasItsBodiesOrThoseAbove() {
        for (int kind = 0; kind < 7; kind++) {
            for (int act = 0; act < 3; act++) {
                int[] trace = TRACES[kind][act];
                for (int cell = 0; cell < 16; cell += 15) {
                    IceBears pond = with(cell, kind, 3);
                    pond.act(cell, act, 7);
                    for (int i = 0; i < trace.length; i++) {
                        due("30: kind " + kind + ", act " + act, pond.trace(i), trace[i]);
                    }
                    due("32: kind " + kind + ", act " + act, pond.count(4), trace.length);
                }
            }
        }
    }

    // ---- trace

    /** Promise 30: "THE TRACE's i-th body. NONE." */
    private static void theTraceEndsBehindItsLastBody() {
        int[] beyond = {-1, LEAST, MOST, 19, 20, 21};
        for (int i : beyond) due("30: nothing ran, " + i, new IceBears().trace(i), NONE);
        due("30: nothing ran, 0", new IceBears().trace(0), NONE);
        for (int kind = 0; kind < 7; kind++) {
            for (int act = 0; act < 3; act++) {
                int[] trace = TRACES[kind][act];
                IceBears pond = with(5, 6, 3);
                pond.act(5, 2, 7);
                pond.place(5, kind, 3);
                pond.act(5, act, 7);
                due("30: the first", pond.trace(0), trace[0]);
                due("30: the last", pond.trace(trace.length - 1), trace[trace.length - 1]);
                due("30: behind the last", pond.trace(trace.length), NONE);
                for (int i : beyond) due("30: " + i, pond.trace(i), NONE);
            }
        }
        IceBears rich = Ponds.rich();
        B.outside("30: i", (pond, n) -> pond.trace(n), 0, rich.count(4) - 1, NONE);
    }

    /**
     * Promise 30: "THE TRACE: the numbers of the bodies that ran in the latest act(), as they began; the first 20 are
     * kept."
     */
    private static void theLongestTraceIsKeptWhole() {
        IceBears pond = with(15, 6, 9);
        pond.act(15, 2, 1);
        due("32: nine ran, the most there are", pond.count(4), 9);
        int[] trace = TRACES[6][2];
        for (int i = 0; i < 9; i++) due("30: kept, " + i, pond.trace(i), trace[i]);
        due("30: no more", pond.trace(9), NONE);
        for (int times = 0; times < 5; times++) pond.act(15, 2, times);
        due("32: nine ran in the latest act alone", pond.count(4), 9);
        due("30: no more of the ones ahead", pond.trace(9), NONE);
    }

    // ---- taken

    /** Promise 31: "The PLACE of a CELL taken for one of KIND k (0 .. 6), or one under that: its KIND." */
    private static void aPlaceIsTakenForThoseAboveIt() {
        boolean[][] isUnder = {
            {true, false, false, false, false, false, false},
            {true, true, false, false, false, false, false},
            {true, false, true, false, false, false, false},
            {true, false, false, true, false, false, false},
            {true, false, false, false, true, false, false},
            {true, false, true, false, false, true, false},
            {true, false, false, true, false, false, true}};
        for (int cell = 0; cell < 16; cell++) {
            for (int kind = 0; kind < 7; kind++) {
                IceBears pond = with(cell, kind, 9);
                for (int k = 0; k < 7; k++) {
                    due("31: kind " + kind + " for " + k, pond.taken(cell, k), isUnder[kind][k] ? kind : CAST);
                }
            }
        }
    }

    /** Promise 31: "BAD: k; NOTHING: no such CELL; CAST." */
    private static void takenNamesTheKindFirst() {
        B.outside("31: k", (pond, n) -> pond.taken(0, n), 0, 6, BAD);
        B.outside("31: cell", (pond, n) -> pond.taken(n, 0), 0, 15, NOTHING);
        B.outside("31: cell", (pond, n) -> pond.taken(n, 6), 0, 15, NOTHING);
        B.refused("31: cell 16, k 7", pond -> pond.taken(16, 7), BAD);
        B.refused("31: cell -1, k -1", pond -> pond.taken(-1, -1), BAD);
        B.refused("31: kind 1 for 2", pond -> pond.taken(1, 2), CAST);
    }

    // ---- count

    /** Promise 32: "How many: 0 WINTERS, 1 HOLES, 2 bytes of THE TEXT, 3 which HOUR it is" */
    private static void countsFromNoneToMost() {
        IceBears least = new IceBears();
        for (int what = 0; what < 6; what++) due("32: none of " + what, least.count(what), 0);
        IceBears most = Ponds.full();
        for (int cell = 0; cell < 16; cell++) most.children(cell, 9);
        int[] all = {5, 10, 100, 9999, 0, 144};
        for (int what = 0; what < 6; what++) due("32: the most of " + what, most.count(what), all[what]);
        IceBears some = new IceBears();
        Check.read(some, "bears 1");
        some.hole(0, 0, 0);
        some.hole(0, 0, 0);
        some.feed(0, 3);
        some.go(4);
        some.place(0, 3, 0);
        some.act(0, 2, 0);
        some.children(15, 6);
        int[] each = {1, 2, 3, 4, 5, 6};
        for (int what = 0; what < 6; what++) due("32: what " + what, some.count(what), each[what]);
    }

    /** Promise 32: "4 bodies that ran in the latest act() (all, kept or not), 5 CHILDREN in all. BAD." */
    private static void whatIsCountedHasItsBounds() {
        B.outside("32: what", (pond, n) -> pond.count(n), 0, 5, BAD);
        IceBears pond = new IceBears();
        for (int cell = 0; cell < 16; cell++) {
            pond.children(cell, 9);
            due("32: children in all", pond.count(5), 9 * cell + 9);
        }
        pond.children(0, 0);
        due("32: nine fewer", pond.count(5), 135);
        pond.act(0, 0, 0);
        due("32: one ran", pond.count(4), 1);
        pond.act(0, 3, 0);
        due("32: none ran", pond.count(4), 0);
    }

    public static void main(String[] args) {
        freezingWraps();
        goingWraps();
        tellingWraps();
        noSuchCellOrActRunsNothing();
        eachKindHasItsBodiesOrThoseAbove();
        theTraceEndsBehindItsLastBody();
        theLongestTraceIsKeptWhole();
        aPlaceIsTakenForThoseAboveIt();
        takenNamesTheKindFirst();
        countsFromNoneToMost();
        whatIsCountedHasItsBounds();
        B.end();
    }
}
