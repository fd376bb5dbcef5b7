/** Promises 33 to 36: tape, item, read, shift. */
final class TapesTest {
    private static final Check CHECK = new Check("TapesTest");

    private static void due(String call, long got, long want) {
        CHECK.due(call, got, want);
    }

    private static void tapesBecomeRows() {
        IceBears pond = new IceBears();
        due("33: the most", pond.tape(0, 0, 60), 1);
        due("33: the last item", pond.read(0, 59), 0);
        due("33: none behind it", pond.read(0, 60), IceBears.NO);
        due("33: the last tape, none", pond.tape(5, 4, 0), 1);
        due("33: a row of none", pond.read(5, 0), IceBears.NO);
        due("33: tape -1", pond.tape(-1, 0, 0), IceBears.NONE);
        due("33: tape 6, ahead of the sort", pond.tape(6, 9, -1), IceBears.NONE);
        due("33: sort 5, ahead of the size", pond.tape(0, 5, -1), IceBears.BAD);
        due("33: sort -2", pond.tape(0, -2, 1), IceBears.BAD);
        due("33: n 61", pond.tape(0, 1, 61), IceBears.BAD);
        due("33: n -1", pond.tape(0, 1, -1), -14);
        due("33: n far below 0", pond.tape(0, 1, Integer.MIN_VALUE), -14);
        due("33: the row stands", pond.item(0, 59, 200), 1);
        due("33: bytes still", pond.read(0, 59), -56);
        due("33: anew, all 0", pond.tape(0, 1, 60), 1);
        due("33: 0", pond.read(0, 59), 0);
        due("33: nothing, n does not matter", pond.tape(0, -1, 61), 1);
        due("33: nothing, n below 0", pond.tape(0, -1, -9), 1);
        due("33: nothing there", pond.item(0, 0, 0), -11);
        due("35: nothing there", pond.read(0, 0), IceBears.NO);
        pond.tape(4, 3, 2);
        pond.item(4, 0, 9);
        pond.item(4, 1, 9);
        pond.tape(4, 3, 3);
        for (int i = 0; i < 3; i++) due("33: all 0, " + i, pond.read(4, i), 0);
    }

    private static void itemsKeepTheirLowestBits() {
        long v = 0x8123456789abcdefL;
        long[] want = {(byte) 0xef, (short) 0xcdef, 0x89abcdef, v, 1};
        for (int sort = 0; sort < 5; sort++) {
            IceBears pond = new IceBears();
            pond.tape(3, sort, 3);
            due("34: sort " + sort, pond.item(3, 2, v), 1);
            due("35: sort " + sort, pond.read(3, 2), want[sort]);
            due("35: the one ahead", pond.read(3, 1), 0);
            pond.item(3, 0, 1L << 63);
            due("34: one high bit, sort " + sort, pond.read(3, 0), sort == 3 ? 1L << 63 : sort == 4 ? 1 : 0);
            pond.item(3, 2, 0);
            due("34: 0, sort " + sort, pond.read(3, 2), 0);
        }
    }

    private static void itemsThatAreNotThere() {
        IceBears pond = new IceBears();
        pond.tape(0, 3, 2);
        due("34: tape -1", pond.item(-1, 0, 0), IceBears.NONE);
        due("34: tape 6", pond.item(6, 0, 0), IceBears.NONE);
        due("34: nothing, ahead of the place", pond.item(1, -1, 0), -11);
        due("34: place -1", pond.item(0, -1, 0), -13);
        due("34: place 2", pond.item(0, 2, 0), -13);
        due("34: the last", pond.item(0, 1, 7), 1);
        due("35: tape -1", pond.read(-1, 0), IceBears.NO);
        due("35: tape 6", pond.read(6, 0), IceBears.NO);
        due("35: nothing", pond.read(1, 0), IceBears.NO);
        due("35: place -1", pond.read(0, -1), IceBears.NO);
        due("35: place 2", pond.read(0, 2), IceBears.NO);
        due("35: the last", pond.read(0, 1), 7);
    }

    private static void row(String call, IceBears pond, int tape, int... items) {
        for (int i = 0; i < items.length; i++) due(call + ", " + i, pond.read(tape, i), items[i]);
    }

    private static void itemsAreShifted() {
        IceBears pond = new IceBears();
        for (int tape = 0; tape < 2; tape++) {
            pond.tape(tape, 2, 6);
            for (int i = 0; i < 6; i++) pond.item(tape, i, 10 * (tape + 1) + i);
        }
        due("36: to another", pond.shift(0, 1, 1, 3, 3), 3);
        row("36: from", pond, 0, 10, 11, 12, 13, 14, 15);
        row("36: to", pond, 1, 20, 21, 22, 11, 12, 13);
        due("36: up in the same", pond.shift(0, 0, 0, 1, 4), 4);
        row("36: as they were before", pond, 0, 10, 10, 11, 12, 13, 15);
        due("36: down in the same", pond.shift(0, 2, 0, 0, 4), 4);
        row("36: as they were before", pond, 0, 11, 12, 13, 15, 13, 15);
        due("36: none, at both ends", pond.shift(0, 6, 1, 6, 0), 0);
        due("36: all", pond.shift(1, 0, 0, 0, 6), 6);
        row("36: all", pond, 0, 20, 21, 22, 11, 12, 13);
    }

    private static void shiftsThatCannotBe() {
        IceBears pond = new IceBears();
        pond.tape(0, 2, 6);
        pond.tape(1, 2, 4);
        pond.tape(2, 3, 4);
        pond.item(0, 0, 5);
        due("36: tape -1", pond.shift(-1, 0, 0, 0, 0), IceBears.NONE);
        due("36: other 6, ahead of nothing", pond.shift(3, 0, 6, 0, 0), IceBears.NONE);
        due("36: nothing there", pond.shift(3, 0, 0, 0, 0), -11);
        due("36: nothing in the other", pond.shift(0, 9, 4, 0, 0), -11);
        due("36: unlike sorts, ahead of the place", pond.shift(0, -1, 2, 0, 9), -12);
        due("36: n -1", pond.shift(0, 0, 1, 0, -1), -13);
        due("36: i -1", pond.shift(0, -1, 1, 0, 0), -13);
        due("36: j -1", pond.shift(0, 0, 1, -1, 0), -13);
        due("36: i beyond", pond.shift(0, 7, 1, 0, 0), -13);
        due("36: j beyond", pond.shift(0, 0, 1, 5, 0), -13);
        due("36: beyond the one's end", pond.shift(0, 4, 1, 0, 3), -13);
        due("36: beyond the other's end", pond.shift(0, 0, 1, 2, 3), -13);
        due("36: more than either", pond.shift(0, 0, 1, 0, 7), -13);
        due("36: i and n wrap", pond.shift(0, Integer.MAX_VALUE, 1, 0, 1), -13);
        due("36: j and n wrap", pond.shift(0, 0, 1, 1, Integer.MAX_VALUE), -13);
        due("36: least numbers", pond.shift(0, Integer.MIN_VALUE, 1, Integer.MIN_VALUE, Integer.MIN_VALUE), -13);
        row("36: as it was", pond, 0, 5, 0, 0, 0, 0, 0);
        row("36: the other as it was", pond, 1, 0, 0, 0, 0);
    }

    public static void main(String[] args) {
        tapesBecomeRows();
        itemsKeepTheirLowestBits();
        itemsThatAreNotThere();
        itemsAreShifted();
        shiftsThatCannotBe();
        CHECK.end();
    }
}
