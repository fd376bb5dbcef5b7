/** Promises 1 to 5: a new object, lay, of, children, fall. */
final class CellsTest {
    private static final Check CHECK = new Check("CellsTest");

    private static void due(String call, long got, long want) {
        CHECK.due(call, got, want);
    }

    private static void aNewObjectIsOpenWater() {
        IceBears pond = new IceBears();
        for (int cell = 0; cell < 16; cell++) {
            for (int what = 0; what < 7; what++) due("1: of " + cell + " " + what, pond.of(cell, what), what == 5 ? 1 : 0);
            due("1: kind of " + cell, pond.taken(cell, 0), 0);
            due("1: cold " + cell, pond.cold(cell), 0);
        }
        for (int what = 0; what < 6; what++) due("1: count " + what, pond.count(what), 0);
        for (int tape = 0; tape < 6; tape++) due("1: read " + tape, pond.read(tape, 0), IceBears.NO);
        for (int day = 0; day < 10; day++) due("1: warm " + day, pond.warm(day, false), 0);
        for (int k = 0; k < 4; k++) due("1: odds " + k, pond.odds(k, 0), 0);
        due("1: frost", pond.told(0, 0), 0);
        due("1: bears", pond.told(0, 2), 10);
        due("1: no image", pond.undo(), IceBears.STATE);
        due("1: no winter", pond.off(0), IceBears.NONE);
        due("1: no trace", pond.trace(0), IceBears.NONE);
    }

    private static void layTakesItsEdgesAndNoMore() {
        IceBears pond = new IceBears();
        due("2: lay first", pond.lay(0, 999, 999, 99), 0);
        due("2: half of white is cut", pond.lay(0, 0, 1, 0), 1498);
        due("2: white 1 is no thickness", pond.lay(0, 7, 0, 0), 0);
        due("2: last cell", pond.lay(15, 1, 3, 2), 0);
        due("2: last cell again", pond.lay(15, 0, 0, 0), 2);
        due("2: cell -1", pond.lay(-1, 0, 0, 0), IceBears.NONE);
        due("2: cell 16", pond.lay(16, 0, 0, 0), IceBears.NONE);
        due("2: none ahead of bad", pond.lay(16, -1, 0, 0), IceBears.NONE);
        due("2: clear -1", pond.lay(0, -1, 0, 0), IceBears.BAD);
        due("2: clear 1000", pond.lay(0, 1000, 0, 0), IceBears.BAD);
        due("2: white -1", pond.lay(0, 0, -1, 0), IceBears.BAD);
        due("2: white 1000", pond.lay(0, 0, 1000, 0), IceBears.BAD);
        due("2: snow -1", pond.lay(0, 0, 0, -1), IceBears.BAD);
        due("2: snow 100", pond.lay(0, 0, 0, 100), IceBears.BAD);
        due("2: still as it was", pond.of(0, 3), 7);
    }

    private static void ofTellsEach() {
        IceBears pond = new IceBears();
        pond.lay(5, 12, 9, 4);
        pond.children(5, 2);
        pond.children(1, 1);
        pond.children(9, 3);
        pond.children(0, 9);
        due("3: clear", pond.of(5, 0), 12);
        due("3: white", pond.of(5, 1), 9);
        due("3: snow", pond.of(5, 2), 4);
        due("3: thick", pond.of(5, 3), 16);
        due("3: load", pond.of(5, 4), 2 * 2 + 1 + 3);
        due("3: bears", pond.of(5, 5), 1);
        due("3: children", pond.of(5, 6), 2);
        due("3: what -1", pond.of(5, -1), IceBears.NONE);
        due("3: what 7", pond.of(5, 7), IceBears.NONE);
        due("3: cell -1", pond.of(-1, 0), IceBears.NONE);
        due("3: cell 16", pond.of(16, 0), IceBears.NONE);
    }

    /** A child in one cell weighs 2 there, 1 in the cells in its row and column, and nowhere else. */
    private static void nearIsInARowOrAColumn() {
        for (int cell = 0; cell < 16; cell++) {
            IceBears pond = new IceBears();
            pond.children(cell, 1);
            for (int other = 0; other < 16; other++) {
                int rows = Math.abs(cell / 4 - other / 4), columns = Math.abs(cell % 4 - other % 4);
                int load = rows + columns == 0 ? 2 : rows + columns == 1 ? 1 : 0;
                due("3: load of " + other + " by " + cell, pond.of(other, 4), load);
            }
        }
    }

    private static void bearingIsThickTimesThickByBears() {
        IceBears pond = new IceBears();
        pond.children(5, 5);
        pond.lay(5, 10, 0, 0);
        due("3: 100 by 10 bears 10", pond.of(5, 5), 1);
        pond.lay(5, 9, 1, 0);
        due("3: 81 by 10 bears 8 alone", pond.of(5, 5), 0);
        pond.lay(5, 9, 2, 0);
        due("3: half of white counts", pond.of(5, 5), 1);
        due("3: no ice, load from near", pond.of(4, 5), 0);
        due("3: no ice, no load", pond.of(15, 5), 1);
        Check.read(pond, "bears 0");
        pond.lay(5, 3, 0, 0);
        due("3: bears 0 is 1: 9", pond.of(5, 5), 0);
        pond.lay(5, 4, 0, 0);
        due("3: bears 0 is 1: 16", pond.of(5, 5), 1);
        Check.read(pond, "bears 7;frost 1 h<3;bears 99");
        pond.lay(5, 31, 0, 0);
        due("3: the last bears holds: 961 by 99", pond.of(5, 5), 0);
        pond.lay(5, 32, 0, 0);
        due("3: the last bears holds: 1024 by 99", pond.of(5, 5), 1);
        pond.children(5, 0);
        pond.lay(5, 0, 0, 0);
        due("3: no load again", pond.of(5, 5), 1);
    }

    private static void childrenAreCounted() {
        IceBears pond = new IceBears();
        due("4: first", pond.children(0, 9), 0);
        due("4: again", pond.children(0, 0), 9);
        due("4: last cell", pond.children(15, 3), 0);
        due("4: n -1", pond.children(15, -1), IceBears.BAD);
        due("4: n 10", pond.children(15, 10), IceBears.BAD);
        due("4: cell -1", pond.children(-1, 10), IceBears.NONE);
        due("4: cell 16", pond.children(16, 1), IceBears.NONE);
        due("4: as it was", pond.of(15, 6), 3);
        pond.children(0, 5);
        due("32: children in all", pond.count(5), 8);
    }

    private static void thoseFallWhoStandWhereItDoesNotBear() {
        IceBears pond = new IceBears();
        pond.children(0, 1);
        pond.children(15, 1);
        due("5: no ice", pond.fall(), 1 | 1 << 15);
        pond.lay(0, 20, 0, 0);
        due("5: ice at one; near it none stands", pond.fall(), 1 << 15);
        pond.children(1, 9);
        pond.lay(1, 100, 0, 0);
        due("5: those near weigh too: 11 on 40", pond.fall(), 1 << 15);
        pond.lay(0, 10, 0, 0);
        due("5: those near weigh too: 11 on 10", pond.fall(), 1 | 1 << 15);
        due("5: it changes nothing", pond.of(0, 6), 1);
    }

    public static void main(String[] args) {
        aNewObjectIsOpenWater();
        layTakesItsEdgesAndNoMore();
        ofTellsEach();
        nearIsInARowOrAColumn();
        bearingIsThickTimesThickByBears();
        childrenAreCounted();
        thoseFallWhoStandWhereItDoesNotBear();
        CHECK.end();
    }
}
