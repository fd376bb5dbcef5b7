/** Ponds that hold something of everything, and what later calls show of a pond. */
final class Ponds {
    private static final int CELLS = 16, TAPES = 6, DAYS = 10, ODDS = 4, WINTERS = 5;
    private static final long OF_ALL_BYTES = 0x8182838485868788L;

    private Ponds() {
    }

    /** Something is told of everything, half of it behind an image; some 90 calls old. */
    static IceBears rich() {
        IceBears pond = new IceBears();
        Check.read(pond, "frost 9 h<24;snow 1 h=3;bears 4");
        Check.read(pond, "frost 12 h<8|h>17;thaw 6 w=1;snow 2 h=5;bears 7");
        for (int cell = 0; cell < CELLS; cell++) pond.lay(cell, 20 + 3 * cell, cell, cell % 5);
        for (int cell = 0; cell < 7; cell++) pond.place(cell, cell, 9 - cell);
        for (int cell = 3; cell < CELLS; cell += 3) pond.children(cell, 1 + cell % 4);
        pond.warm(0, true);
        pond.warm(4, true);
        pond.warm(9, true);
        pond.odds(0, 3);
        pond.odds(1, 4);
        pond.odds(3, 2);
        pond.hole(3, 7, 20);
        pond.hole(8, 30, 41);
        pond.image();
        pond.go(9);
        changeSomeOfAll(pond);
        return pond;
    }

    private static void changeSomeOfAll(IceBears pond) {
        pond.lay(2, 33, 44, 55);
        pond.children(2, 1);
        pond.place(2, 6, 1);
        pond.place(15, 5, 2);
        pond.warm(4, false);
        pond.odds(1, 5);
        pond.hole(0, 0, 12);
        pond.tape(1, 3, 4);
        pond.item(1, 2, 99);
        pond.tape(2, 4, 0);
        pond.tape(3, 0, 3);
        pond.item(3, 1, -7);
        pond.tape(4, 2, 5);
        pond.act(6, 2, 5);
        Check.write(pond, "frost 7");
    }

    /** As much of everything as there can be; some 130 calls old. */
    static IceBears full() {
        IceBears pond = new IceBears();
        for (int i = 1; i <= WINTERS; i++) Check.read(pond, "frost " + i + " w=0;bears 3");
        for (int i = 0; i < 10; i++) pond.hole(i, 10 + i, 20 + i);
        pond.image();
        for (int i = 0; i < 41; i++) pond.go(240);
        pond.go(159);
        for (int cell = 0; cell < CELLS; cell += 5) pond.lay(cell, 999, 999, 99);
        for (int cell = 0; cell < CELLS; cell += 5) pond.children(cell, 9);
        pond.tape(0, 3, 60);
        pond.item(0, 3, -1);
        Check.write(pond, "b".repeat(100));
        return pond;
    }

    /** A row of each sort from tape 0 on, tape 5 holds nothing, tapes 0 and 1 are rows of ints. */
    static IceBears withTapes() {
        IceBears pond = rich();
        int[] sorts = {2, 2, 3, 4, 1};
        for (int tape = 0; tape < sorts.length; tape++) {
            pond.tape(tape, sorts[tape], 4 + tape % 2);
            for (int i = 0; i < 4; i++) pond.item(tape, i, 10 * tape + i + 1);
        }
        pond.tape(5, -1, 0);
        return pond;
    }

    /** All that later calls show, in some 340 calls; it spends the pond. */
    static String shown(IceBears pond) {
        StringBuilder all = new StringBuilder();
        for (int what = 0; what < 6; what++) all.append(pond.count(what)).append(' ');
        for (int i = 0; i < 10; i++) all.append(pond.trace(i)).append(' ');
        showTapes(pond, all);
        showCells(pond, all);
        for (int hour = 0; hour < 24; hour++) all.append(pond.told(hour, 0)).append(' ');
        showFalls(pond, all);
        for (int winter = 0; winter < WINTERS; winter++) all.append(pond.off(winter)).append(' ');
        all.append(pond.likely()).append('\n');
        showDays(pond, all);
        Check.write(pond, " h=1");
        all.append(pond.winter()).append(' ').append(pond.told(1, 0)).append('\n');
        all.append("image ").append(pond.undo()).append('\n');
        for (int what = 0; what < 6; what++) all.append(pond.count(what)).append(' ');
        showCells(pond, all);
        all.append(pond.told(1, 0)).append(' ');
        showFalls(pond, all);
        all.append(pond.off(0)).append(' ').append(pond.off(1)).append('\n');
        showDays(pond, all);
        return all.toString();
    }

    private static void showCells(IceBears pond, StringBuilder all) {
        for (int cell = 0; cell < CELLS; cell++) {
            all.append(pond.of(cell, 0)).append(' ').append(pond.of(cell, 1)).append(' ');
            all.append(pond.of(cell, 2)).append(' ').append(pond.of(cell, 6)).append(' ');
            // What goes by tells the number v of any kind.
            all.append(pond.taken(cell, 0)).append(' ').append(pond.act(cell, 1, 0)).append('\n');
        }
    }

    private static void showFalls(IceBears pond, StringBuilder all) {
        all.append(pond.told(3, 1)).append(' ').append(pond.told(5, 1)).append(' ');
        all.append(pond.told(0, 2)).append('\n');
    }

    private static void showDays(IceBears pond, StringBuilder all) {
        for (int day = 0; day < DAYS; day++) all.append(pond.warm(day, false)).append(' ');
        for (int k = 0; k < ODDS; k++) all.append(pond.odds(k, 0)).append(' ');
        all.append('\n');
    }

    private static void showTapes(IceBears pond, StringBuilder all) {
        for (int tape = 0; tape < TAPES; tape++) {
            for (int i = 0; i < 6; i++) all.append(pond.read(tape, i)).append(' ');
        }
        for (int tape = 0; tape < TAPES; tape++) {
            for (int other = tape + 1; other < TAPES; other++) {
                all.append(pond.shift(tape, 0, other, 0, 0)).append(' ');
            }
            all.append(pond.item(tape, 0, OF_ALL_BYTES)).append(' ').append(pond.read(tape, 0)).append('\n');
        }
    }
}
