/** Promises 26 to 28: judge, image, undo. */
final class ImageTest {
    private static final Check CHECK = new Check("ImageTest");

    private static void due(String call, long got, long want) {
        CHECK.due(call, got, want);
    }

    private static IceBears stepped() {
        IceBears pond = new IceBears();
        for (int cell = 0; cell < 16; cell++) pond.lay(cell, 10 * cell, 3, 1);
        return pond;
    }

    private static void tell(IceBears pond, int tape, int from) {
        for (int cell = 0; cell < 16; cell++) pond.item(tape, from + cell, 10 * cell + 1);
    }

    private static void thicknessIsJudged() {
        IceBears pond = stepped();
        pond.tape(2, 3, 20);
        tell(pond, 2, 4);
        due("26: none is otherwise, to the very end", pond.judge(2, 4), -5);
        due("26: one place off, the first", pond.judge(2, 3), 0);
        due("26: one place off, at 5", pond.judge(2, 5), 0);
        pond.item(2, 4 + 15, 150);
        due("26: the last", pond.judge(2, 4), 15);
        pond.item(2, 4 + 7, 71L | 1L << 40);
        due("26: the first of two; longs are looked at whole", pond.judge(2, 4), 7);
        pond.tape(1, 3, 16);
        tell(pond, 1, 0);
        due("26: from the first place on", pond.judge(1, 0), -5);
        pond.tape(2, 3, 19);
        tell(pond, 2, 4);
        due("26: the row ends ahead of the last", pond.judge(2, 4), 115);
        due("26: otherwise ahead of the end", pond.judge(2, 18), 0);
        due("26: at the end", pond.judge(2, 19), 100);
        due("26: beyond the end", pond.judge(2, Integer.MAX_VALUE), 100);
        pond.item(2, 18, 1);
        due("26: one looked at", pond.judge(2, 18), 101);
        due("26: a place below 0", pond.judge(2, -1), 100);
        due("26: far below 0", pond.judge(2, Integer.MIN_VALUE), 100);
        due("26: nothing is held", pond.judge(3, 0), 100);
        due("26: nothing is held, below 0", pond.judge(3, -1), 100);
        pond.tape(4, 3, 0);
        due("26: a row of none", pond.judge(4, 0), 100);
        for (int sort = 0; sort < 5; sort++) {
            pond.tape(5, sort, 0);
            due("26: sort " + sort, pond.judge(5, -1), sort == 3 ? 100 : -12);
        }
        due("26: tape -1", pond.judge(-1, 0), IceBears.NONE);
        due("26: tape 6", pond.judge(6, 0), IceBears.NONE);
    }

    private static void anImageBringsAllBack() {
        IceBears pond = new IceBears();
        due("28: there is none", pond.undo(), IceBears.STATE);
        Check.read(pond, "frost 9 h<24");
        pond.go(5);
        pond.lay(3, 7, 9, 2);
        pond.children(3, 4);
        pond.place(3, 5, 8);
        pond.place(4, 3, 8);
        pond.warm(2, true);
        pond.odds(1, 6);
        pond.hole(3, 4, 5);
        due("27: which hour", pond.image(), 5);
        String before = Check.state(pond);
        pond.lay(3, 70, 90, 20);
        pond.children(3, 5);
        pond.children(9, 5);
        pond.place(3, 6, 7);
        pond.place(4, 3, 7);
        pond.warm(2, false);
        pond.warm(7, true);
        pond.odds(1, 7);
        pond.odds(3, 7);
        pond.hole(3, 9, 9);
        pond.go(200);
        due("28: which hour", pond.undo(), 5);
        due("28: all is as it was", Check.state(pond).equals(before) ? 1 : 0, 1);
        due("28: odds", pond.odds(1, 6), 6);
        due("28: other odds", pond.odds(3, 0), 0);
        due("28: cold by its number", pond.cold(4), 1);
        due("28: kind", pond.place(3, 5, 8), 5);
        due("28: warm day", pond.warm(2, true), 1);
        due("28: no warm day", pond.warm(7, false), 0);
        due("28: a hole more is the second", pond.hole(0, 0, 0), 2);
        pond.go(7);
        due("28: again", pond.undo(), 5);
        due("28: holes again", pond.count(1), 1);
        pond.go(1);
        due("27: a later image", pond.image(), 6);
        pond.go(1);
        due("28: the latest is meant", pond.undo(), 6);
    }

    private static void whichWinterHoldsComesBackAndNoMore() {
        IceBears pond = new IceBears();
        pond.tape(1, 3, 2);
        pond.image();
        Check.read(pond, "bears 7");
        Check.write(pond, "bear");
        pond.item(1, 0, 5);
        pond.act(0, 2, 1);
        pond.undo();
        due("28: none holds", pond.told(0, 2), 10);
        due("28: it was read all the same", pond.count(0), 1);
        due("28: it can be off", pond.off(0), 0);
        due("28: the text stays", pond.count(2), 4);
        due("28: tapes stay", pond.read(1, 0), 5);
        due("28: the trace stays", pond.count(4), 3);
        pond.feed('s' << 16 | ' ' << 8 | '3', 3);
        due("28: the next winter", pond.winter(), 1);
        pond.image();
        Check.read(pond, "bears 4");
        due("28: the third holds", pond.told(0, 2), 4);
        pond.undo();
        due("28: the second holds", pond.told(0, 2), 3);
        due("28: three were read", pond.count(0), 3);
    }

    public static void main(String[] args) {
        thicknessIsJudged();
        anImageBringsAllBack();
        whichWinterHoldsComesBackAndNoMore();
        CHECK.end();
    }
}
