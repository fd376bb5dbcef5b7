/** Promises 13 to 19: when, thin, reach, sweep, lamp, board, rope. */
final class AheadTest {
    private static final Check CHECK = new Check("AheadTest");

    private static void due(String call, long got, long want) {
        CHECK.due(call, got, want);
    }

    private static IceBears under(String winter) {
        IceBears pond = new IceBears();
        Check.read(pond, winter);
        return pond;
    }

    private static void whenEveryCellBears() {
        // Open water under frost 10 is 10, 16, 21, 25 thick behind 1, 2, 3, 4 hours; k weighs 6 k in the middle.
        IceBears pond = under("frost 10 h<24");
        int[] hours = {1, 2, 2, 2, 3, 3, 3, 4, 4};
        for (int k = 1; k <= 9; k++) due("13: when " + k, pond.when(k), hours[k - 1]);
        due("13: k 0", pond.when(0), IceBears.BAD);
        due("13: k 10", pond.when(10), IceBears.BAD);
        pond.children(5, 9);
        due("13: those that are do not count", pond.when(1), 1);
        due("13: nothing has gone by", pond.count(3), 0);
        due("13: nothing has frozen", pond.of(0, 3), 0);
        for (int cell = 0; cell < 16; cell++) pond.lay(cell, 24, 0, 0);
        due("13: now", pond.when(9), 0);
        pond.lay(15, 18, 0, 0);
        due("13: a corner weighs 4 k: 36 on 32", pond.when(9), 1);
        due("13: a corner weighs 4 k: 32 on 32", pond.when(8), 0);
        pond.lay(15, 24, 0, 0);
        pond.lay(0, 18, 0, 0);
        due("13: the first corner too", pond.when(9), 1);
        due("13: never", new IceBears().when(1), -5);
        due("13: behind 240", under("frost 30 d=9&h=23").when(1), 240);
        due("13: 241 is never", under("frost 30 d=10&h=0").when(1), -5);
        IceBears once = under("frost 10 h=1;thaw 99 h=2");
        due("13: first, though not for long", once.when(1), 2);
        once.place(15, 6, 9);
        due("13: one cell that never bears", once.when(1), -5);
    }

    private static void whereItIsThin() {
        IceBears pond = under("frost 9 h=1");
        for (int cell = 0; cell < 16; cell++) pond.lay(cell, 40, 0, 0);
        pond.lay(6, 20, 0, 0);
        pond.lay(9, 18, 4, 0);
        pond.lay(3, 21, 0, 0);
        due("14: the cell, the least of two", pond.thin(0, 0), 6);
        due("14: how thick", pond.thin(0, 1), 20);
        due("14: half as thick or less", pond.thin(0, 2), 2);
        due("14: behind 1", pond.thin(1, 1), 20);
        due("14: behind 2, white has slowed it", pond.thin(2, 0), 6);
        due("14: behind 2, 24 and 43", pond.thin(2, 1), 24);
        due("14: behind 99", pond.thin(99, 0) >= 0 ? 1 : 0, 1);
        due("14: n -1", pond.thin(-1, 0), IceBears.BAD);
        due("14: n 100", pond.thin(100, 0), IceBears.BAD);
        due("14: what 3, ahead of n", pond.thin(100, 3), IceBears.NONE);
        due("14: what -1", pond.thin(0, -1), IceBears.NONE);
        due("14: it changes nothing", pond.of(6, 0), 20);
        due("14: all of none are half of it", new IceBears().thin(99, 2), 16);
        for (int cell = 0; cell < 16; cell++) pond.lay(cell, cell == 0 ? 100 : 50, 0, 0);
        due("14: the first is the thickest", pond.thin(0, 2), 15);
        due("14: the first of all", new IceBears().thin(99, 0), 0);
        IceBears one = new IceBears();
        one.lay(0, 1, 0, 0);
        due("14: least cell of many", one.thin(5, 0), 1);
        due("14: 0 is half of 1 or less", one.thin(5, 2), 15);
    }

    private static void waysToReachACell() {
        IceBears pond = new IceBears();
        int[] way = {0, 4, 8, 9};
        for (int cell : way) pond.lay(cell, 10, 0, 0);
        int[] cells = {0, 0, 0, 0, 1, 2, -5, -5, 2, 3, 4, -5, 3, 4, -5, -5};
        for (int cell = 0; cell < 16; cell++) due("15: reach " + cell, pond.reach(cell), cells[cell]);
        due("15: cell -1", pond.reach(-1), IceBears.NONE);
        due("15: cell 16", pond.reach(16), IceBears.NONE);
        pond.children(4, 4);
        due("15: 8 there and 2 on 10", pond.reach(12), 3);
        pond.children(4, 5);
        due("15: 10 there and 2 on 10", pond.reach(12), -5);
        due("15: the cell itself need not bear", pond.reach(4), 1);
        pond.children(4, 0);
        pond.children(7, 9);
        pond.lay(3, 10, 0, 0);
        due("15: those near weigh: 9 and 2 on 10", pond.reach(7), -5);
        pond.lay(3, 11, 0, 0);
        due("15: 11 on 12", pond.reach(7), 1);
        pond.lay(8, 4, 0, 0);
        due("15: 16 by 10 is 1", pond.reach(13), -5);
        due("15: it changes nothing", pond.of(4, 6), 0);
    }

    private static void theShortestOfMoreWays() {
        IceBears pond = new IceBears();
        for (int cell = 0; cell < 16; cell++) pond.lay(cell, 50, 0, 0);
        for (int cell = 4; cell < 16; cell++) due("15: all bear, " + cell, pond.reach(cell), cell / 4);
        pond.lay(9, 0, 0, 0);
        due("15: around a hole", pond.reach(13), 4);
        pond.lay(2, 0, 0, 0);
        due("15: from another shore cell", pond.reach(6), 2);
        due("15: through none that lies across the edge", pond.reach(4), 1);
        for (int cell = 0; cell < 4; cell++) pond.lay(cell, 0, 0, 0);
        due("15: no way on", pond.reach(4), -5);
        IceBears edge = new IceBears();
        edge.lay(3, 50, 0, 0);
        due("15: 3 and 4 are not near", edge.reach(4), -5);
        due("15: 3 and 7 are", edge.reach(7), 1);
        IceBears snake = new IceBears();
        int[] way = {3, 7, 6, 5, 4, 8, 12, 13, 14};
        for (int cell : way) snake.lay(cell, 9, 0, 0);
        due("15: a short way beside it", snake.reach(11), 2);
        due("15: a long way round", snake.reach(15), 9);
        due("15: ends may be near a start", snake.reach(10), 3);
    }

    private static void whereSweepingHelpsMost() {
        IceBears pond = under("frost 10 h<24");
        for (int cell = 0; cell < 16; cell++) pond.lay(cell, 10, 0, 0);
        pond.lay(3, 10, 0, 8);
        pond.lay(7, 10, 0, 8);
        pond.lay(9, 10, 0, 1);
        due("16: the cell, the least of two", pond.sweep(1, 0), 3);
        due("16: 16 and not 12", pond.sweep(1, 1), 4);
        due("16: behind 2, 21 and not 14", pond.sweep(2, 1), 7);
        due("16: behind 99", pond.sweep(99, 0), 3);
        due("16: n 0", pond.sweep(0, 0), IceBears.BAD);
        due("16: n 100", pond.sweep(100, 1), IceBears.BAD);
        due("16: what 2, ahead of n", pond.sweep(0, 2), IceBears.NONE);
        due("16: what -1", pond.sweep(1, -1), IceBears.NONE);
        due("16: it changes nothing", pond.of(3, 2), 8);
        pond.lay(0, 10, 0, 8);
        due("16: the first of all", pond.sweep(1, 0), 0);
        pond.lay(0, 10, 0, 9);
        pond.lay(1, 10, 0, 9);
        due("16: the second is no better", pond.sweep(9, 0), 0);
        pond.lay(1, 10, 0, 99);
        due("16: the second is better", pond.sweep(9, 0), 1);
        IceBears thaw = under("thaw 5 h<24");
        for (int cell = 0; cell < 16; cell++) thaw.lay(cell, 20, 0, 5);
        due("16: it may be worse everywhere", thaw.sweep(1, 1), -5);
        thaw.lay(6, 20, 0, 3);
        due("16: least worse", thaw.sweep(1, 0), 6);
        due("16: -3", thaw.sweep(1, 1), -3);
    }

    private static void whereALampMeltsMost() {
        IceBears pond = new IceBears();
        pond.lay(15, 50, 0, 0);
        pond.lay(14, 50, 0, 0);
        pond.lay(11, 50, 0, 0);
        due("17: at 15 three melt", pond.lamp(1), 15);
        pond.lay(9, 50, 0, 0);
        due("17: 10 and 15 melt three, 10 is less", pond.lamp(1), 10);
        due("17: n 0", pond.lamp(0), IceBears.BAD);
        due("17: n 100", pond.lamp(100), IceBears.BAD);
        due("17: behind 99 nothing is left of those", pond.lamp(99), 10);
        due("17: it changes nothing", pond.of(15, 0), 50);
        due("17: of several the least", new IceBears().lamp(9), 0);
        IceBears top = new IceBears();
        int[] nearOne = {0, 2, 5};
        for (int cell : nearOne) top.lay(cell, 50, 0, 0);
        due("17: at 1 three melt", top.lamp(1), 1);
        IceBears ends = new IceBears();
        ends.lay(0, 50, 0, 0);
        ends.lay(15, 50, 0, 0);
        due("17: at either end one melts", ends.lamp(1), 0);
        ends.lay(4, 50, 0, 0);
        ends.lay(15, 3, 0, 0);
        ends.lay(14, 3, 0, 0);
        ends.lay(11, 1, 0, 0);
        due("17: 3 and 3 and 1 are more than 3 and 3", ends.lamp(1), 15);
        ends.lay(15, 2, 0, 0);
        ends.lay(14, 2, 0, 0);
        due("17: 2 and 2 and 1 are less", ends.lamp(1), 0);
        IceBears frost = under("frost 2 h<24");
        for (int cell = 0; cell < 16; cell++) frost.lay(cell, 50, 0, 0);
        due("17: five melt from the middle on", frost.lamp(1), 5);
        frost.lay(5, 0, 0, 0);
        frost.lay(6, 9, 0, 9);
        due("17: open water would have frozen by 2: 9 is near it, and not near snow", frost.lamp(1), 9);
        IceBears kept = under("frost 6 h<24");
        for (int cell = 0; cell < 16; cell++) kept.lay(cell, 999, 0, 0);
        kept.place(12, 6, 2);
        due("17: kept opens at 1 of 4", kept.lamp(1), 8);
        IceBears strong = under("frost 7 h<24");
        for (int cell = 0; cell < 16; cell++) strong.lay(cell, 999, 0, 0);
        strong.place(12, 6, 2);
        strong.place(3, 6, 3);
        due("17: kept opens by itself at 4 of 6; by a lamp at 2 of 4", strong.lamp(1), 8);
    }

    private static void theBoardsRule() {
        // Sums 10, 20, -10, 0; thickness 10, 16, 0, 10.
        IceBears pond = under("frost 10 h<2;thaw 30 h=2;frost 10 h=3");
        due("18: green at 0", pond.board(4, 0, 0), 3);
        due("18: green at 10", pond.board(4, 10, 0), 2);
        due("18: green at 20", pond.board(4, 20, 0), 1);
        due("18: green at 21", pond.board(4, 21, 0), 0);
        due("18: no children, none wrong", pond.board(4, 0, 1), 0);
        due("18: no children, best", pond.board(4, 0, 2), 0);
        pond.children(5, 1);
        due("18: wrong, but not green", pond.board(4, 0, 1), 0);
        due("18: best is no less than 0", pond.board(4, 0, 2), 0);
        pond.children(5, 9);
        due("18: 18 on 10 is wrong twice", pond.board(4, 0, 1), 2);
        due("18: wrong at 10", pond.board(4, 10, 1), 1);
        due("18: wrong at 11", pond.board(4, 11, 1), 0);
        due("18: best", pond.board(4, 999, 2), 11);
        due("18: best of one hour", pond.board(1, 0, 2), 11);
        pond.children(5, 0);
        pond.children(15, 2);
        pond.children(14, 3);
        pond.children(11, 3);
        due("18: 10 on 10", pond.board(1, 0, 1), 0);
        pond.children(15, 3);
        due("18: 12 on 10", pond.board(1, 0, 1), 1);
        due("18: n 0", pond.board(0, 0, 0), IceBears.BAD);
        due("18: n 241", pond.board(241, 0, 0), IceBears.BAD);
        due("18: n 240", pond.board(240, 0, 0) >= 0 ? 1 : 0, 1);
        due("18: s -1", pond.board(1, -1, 2), IceBears.BAD);
        due("18: s 1000", pond.board(1, 1000, 0), IceBears.BAD);
        due("18: what 3, ahead of n", pond.board(0, 0, 3), IceBears.NONE);
        due("18: what -1", pond.board(1, 0, -1), IceBears.NONE);
        due("18: it changes nothing", pond.of(0, 0), 0);
    }

    private static void cellsWithNoChildrenCanBeWrongToo() {
        IceBears pond = under("frost 10 h<24");
        pond.children(5, 1);
        pond.lay(4, 0, 0, 99);
        due("18: a cell near one bears nothing", pond.board(1, 0, 1), 1);
        due("18: best then", pond.board(3, 0, 2) > 10 ? 1 : 0, 1);
    }

    private static void noSumIsEnough() {
        IceBears pond = under("frost 99 h<24;bears 99");
        pond.lay(0, 1, 0, 99);
        pond.children(0, 9);
        due("18: 990 was wrong", pond.board(10, 0, 2), 991);
        due("18: 1089 was wrong", pond.board(11, 0, 2), -5);
        due("18: green at 999", pond.board(11, 999, 0), 1);
        Check.read(pond, "frost 99 h<10;frost 8 h=10;bears 99");
        due("18: 998 was wrong", pond.board(11, 0, 2), 999);
        Check.read(pond, "frost 99 h<10;frost 9 h=10;bears 99");
        due("18: 999 was wrong", pond.board(11, 0, 2), -5);
    }

    private static void whereToRopeOff() {
        IceBears pond = new IceBears();
        due("19: none is there", pond.rope(), 4);
        for (int cell = 0; cell < 16; cell += 4) pond.lay(cell, 30, 0, 0);
        for (int cell = 1; cell < 16; cell += 4) pond.lay(cell, 6, 0, 0);
        pond.children(8, 1);
        pond.children(9, 1);
        due("19: 3 on 3", pond.rope(), 4);
        pond.children(10, 1);
        due("19: column 2 falls, and 4 on 3", pond.rope(), 2);
        pond.children(13, 1);
        due("19: column 1 falls too", pond.rope(), 1);
        pond.children(12, 9);
        pond.lay(12, 0, 0, 0);
        due("19: column 0 falls too", pond.rope(), 0);
        due("19: it changes nothing", pond.of(10, 6), 1);
        IceBears last = new IceBears();
        last.children(15, 1);
        due("19: the last column", last.rope(), 3);
        last.children(0, 1);
        due("19: the first cell", last.rope(), 0);
    }

    public static void main(String[] args) {
        whenEveryCellBears();
        whereItIsThin();
        waysToReachACell();
        theShortestOfMoreWays();
        whereSweepingHelpsMost();
        whereALampMeltsMost();
        theBoardsRule();
        cellsWithNoChildrenCanBeWrongToo();
        noSumIsEnough();
        whereToRopeOff();
        CHECK.end();
    }
}
