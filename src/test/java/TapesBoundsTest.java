/** Promises 33 to 36, sentence by sentence: what is so at each bound, one below it and one above it. */
final class TapesBoundsTest {
    private static final Bounds B = new Bounds("TapesBoundsTest");
    private static final int NONE = IceBears.NONE, BAD = IceBears.BAD;
    private static final int NOTHING = -11, CAST = -12, PLACE = -13, SIZE = -14;
    private static final long NO = IceBears.NO;

    private static void due(String call, long got, long want) {
        B.due(call, got, want);
    }

    /** A row of ints in tape 0, 1 to 60, and one in tape 1, 101 to 160; as long as told. */
    private static IceBears rows(int length, int other) {
        IceBears pond = new IceBears();
        pond.tape(0, 2, length);
        pond.tape(1, 2, other);
        for (int i = 0; i < length; i++) pond.item(0, i, i + 1);
        for (int i = 0; i < other; i++) pond.item(1, i, i + 101);
        return pond;
    }

    // ---- tape

    /** Promise 33: "TAPES 0 .. 5 hold nothing (at first)" */
    private static void sixTapesHoldNothingAtFirst() {
        for (int tape = 0; tape < 6; tape++) {
            IceBears pond = new IceBears();
            due("35: nothing, " + tape, pond.read(tape, 0), NO);
            due("34: nothing, " + tape, pond.item(tape, 0, 1), NOTHING);
            due("36: nothing, " + tape, pond.shift(tape, 0, tape, 0, 0), NOTHING);
            due("33: a row, " + tape, pond.tape(tape, 2, 2), 1);
            due("34: its last, " + tape, pond.item(tape, 1, 9), 1);
            for (int other = 0; other < 6; other++) {
                due("35: " + other + " beside " + tape, pond.read(other, 1), other == tape ? 9 : NO);
            }
        }
        B.outside("33: tape", (pond, n) -> pond.tape(n, 2, 2), 0, 5, NONE);
        B.outside("34: tape", (pond, n) -> pond.item(n, 0, 2), 0, 5, NONE);
        B.outside("35: tape", (pond, n) -> pond.read(n, 0), 0, 5, NO);
        B.outside("36: tape", (pond, n) -> pond.shift(n, 0, 1, 0, 0), 0, 5, NONE);
        B.outside("36: other", (pond, n) -> pond.shift(1, 0, n, 0, 0), 0, 5, NONE);
    }

    /** Promise 33: "or a row of 0 bytes, 1 shorts, 2 ints, 3 longs, 4 booleans (items 0, 1)." */
    private static void fiveSorts() {
        for (int sort = 0; sort < 5; sort++) {
            IceBears pond = new IceBears();
            due("33: sort " + sort, pond.tape(5, sort, 60), 1);
            for (int i = 0; i < 60; i++) due("33: all 0, " + i, pond.read(5, i), 0);
            due("33: and no more", pond.read(5, 60), NO);
            for (int i = 0; i < 60; i++) pond.item(5, i, 1);
            due("33: anew", pond.tape(5, sort, 60), 1);
            for (int i = 0; i < 60; i++) due("33: all 0 again, " + i, pond.read(5, i), 0);
        }
        B.refused("33: sort 5", pond -> pond.tape(1, 5, 1), BAD);
        B.refused("33: sort -2", pond -> pond.tape(1, -2, 1), BAD);
        B.outside("33: sort", (pond, n) -> pond.tape(1, n, 1), -1, 4, BAD);
    }

    /** Promise 33: "A TAPE becomes a row of n (0 .. 60) of a sort, all 0" */
    private static void aRowHasNoneToSixtyItems() {
        for (int n = 0; n <= 60; n++) {
            IceBears pond = new IceBears();
            due("33: a row of " + n, pond.tape(0, 3, n), 1);
            due("35: behind its end", pond.read(0, n), NO);
            due("34: behind its end", pond.item(0, n, 1), PLACE);
            if (n == 0) continue;
            due("35: its first", pond.read(0, 0), 0);
            due("35: its last", pond.read(0, n - 1), 0);
            due("34: its last", pond.item(0, n - 1, 7), 1);
            due("35: its last, told", pond.read(0, n - 1), 7);
        }
        for (int sort = 0; sort < 5; sort++) {
            int one = sort;
            B.refused("33: 61 of " + sort, pond -> pond.tape(1, one, 61), BAD);
            B.refused("33: the most of " + sort, pond -> pond.tape(1, one, Integer.MAX_VALUE), BAD);
            B.refused("33: -1 of " + sort, pond -> pond.tape(1, one, -1), SIZE);
            B.refused("33: the least of " + sort, pond -> pond.tape(1, one, Integer.MIN_VALUE), SIZE);
        }
    }

    /** Promise 33: "or holds nothing (sort -1: n does not matter): 1." */
    private static void aTapeThatHoldsNothingHasNoSize() {
        int[] sizes = {0, 1, 60, 61, -1, Integer.MAX_VALUE, Integer.MIN_VALUE};
        for (int n : sizes) {
            IceBears pond = rows(3, 3);
            due("33: nothing, n " + n, pond.tape(0, -1, n), 1);
            due("34: nothing there", pond.item(0, 0, 1), NOTHING);
            due("35: nothing there", pond.read(0, 0), NO);
            due("26: nothing there", pond.judge(0, 0), 100);
            due("33: nothing again", pond.tape(0, -1, n), 1);
            due("35: the other stays", pond.read(1, 2), 103);
        }
    }

    /** Promise 33: "all 0, or holds nothing (sort -1: n does not matter): 1." */
    private static void aRowMadeAnewIsAllNought() {
        IceBears pond = new IceBears();
        pond.tape(0, 3, 60);
        for (int i = 0; i < 60; i++) pond.item(0, i, -1);
        pond.tape(0, 3, 1);
        due("33: a shorter one", pond.read(0, 0), 0);
        due("33: is shorter", pond.read(0, 1), NO);
        pond.tape(0, 3, 60);
        for (int i = 0; i < 60; i++) due("33: a longer one, " + i, pond.read(0, i), 0);
        for (int i = 0; i < 60; i++) pond.item(0, i, -1);
        pond.tape(0, -1, 0);
        pond.tape(0, 2, 60);
        for (int i = 0; i < 60; i++) due("33: behind nothing, " + i, pond.read(0, i), 0);
    }

    /** Promise 33: "NONE: tape; BAD: sort, n above 60; SIZE." */
    private static void tapeNamesItsRefusalsInOrder() {
        B.refused("33: tape 6, sort 5, n -1", pond -> pond.tape(6, 5, -1), NONE);
        B.refused("33: tape 6, sort 2, n 61", pond -> pond.tape(6, 2, 61), NONE);
        B.refused("33: tape 6, sort -1", pond -> pond.tape(6, -1, 0), NONE);
        B.refused("33: sort 5, n -1", pond -> pond.tape(1, 5, -1), BAD);
        B.refused("33: sort -2, n -1", pond -> pond.tape(1, -2, -1), BAD);
        B.refused("33: sort 5, n 61", pond -> pond.tape(1, 5, 61), BAD);
    }

    // ---- item, read

    private static void item(int sort, long v, long want) {
        IceBears pond = new IceBears();
        pond.tape(4, sort, 3);
        due("34: " + v + " in a row of sort " + sort, pond.item(4, 1, v), 1);
        due("35: " + v + " in a row of sort " + sort, pond.read(4, 1), want);
        due("35: the one ahead", pond.read(4, 0), 0);
        due("35: the one behind", pond.read(4, 2), 0);
    }

    /** Promise 34: "Item i of a TAPE becomes v (its lowest bits, as many as an item has" */
    private static void itemsKeepAsManyBitsAsTheyHave() {
        int[] bits = {8, 16, 32};
        for (int sort = 0; sort < 3; sort++) {
            long half = 1L << bits[sort] - 1;
            long whole = 1L << bits[sort];
            item(sort, 0, 0);
            item(sort, 1, 1);
            item(sort, half - 1, half - 1);
            item(sort, half, -half);
            item(sort, half + 1, 1 - half);
            item(sort, whole - 1, -1);
            item(sort, whole, 0);
            item(sort, whole + 1, 1);
            item(sort, -1, -1);
            item(sort, -half, -half);
            item(sort, -half - 1, half - 1);
            item(sort, -whole, 0);
            item(sort, Long.MAX_VALUE, -1);
            item(sort, Long.MIN_VALUE, 0);
        }
        long[] longs = {0, 1, -1, 1L << 31, 1L << 32, Long.MAX_VALUE, Long.MIN_VALUE, Long.MIN_VALUE + 1};
        for (long v : longs) item(3, v, v);
    }

    /** Promise 34: "booleans: whether v is not 0" */
    private static void booleansAreNoughtOrOne() {
        item(4, 0, 0);
        long[] others = {1, 2, -1, 256, 1L << 16, 1L << 32, 1L << 63, Long.MAX_VALUE};
        for (long v : others) item(4, v, 1);
        IceBears pond = new IceBears();
        pond.tape(0, 4, 1);
        pond.item(0, 0, 256);
        pond.item(0, 0, 0);
        due("35: 0 again", pond.read(0, 0), 0);
    }

    /** Promise 34: "NONE; NOTHING; PLACE." */
    private static void itemNamesItsRefusalsInOrder() {
        B.refused("34: tape 6, place -1", pond -> pond.item(6, -1, 1), NONE);
        B.refused("34: nothing, place -1", pond -> pond.item(5, -1, 1), NOTHING);
        B.refused("34: nothing, place 0", pond -> pond.item(5, 0, 1), NOTHING);
        B.refused("34: a row of none, place 0", pond -> pond.item(2, 0, 1), PLACE);
        B.outside("34: place", (pond, n) -> pond.item(1, n, 1), 0, 3, PLACE);
    }

    /** Promise 35: "Item i of a TAPE. NO: no such TAPE, nothing there, no such place." */
    private static void readAnswersNo() {
        B.outside("35: place", (pond, n) -> pond.read(1, n), 0, 3, NO);
        B.refused("35: nothing there", pond -> pond.read(5, 0), NO);
        B.refused("35: a row of none", pond -> pond.read(2, 0), NO);
        B.refused("35: tape 6, place -1", pond -> pond.read(6, -1), NO);
        B.refused("35: tape -1, place 0", pond -> pond.read(-1, 0), NO);
        IceBears pond = rows(60, 0);
        due("35: the first", pond.read(0, 0), 1);
        due("35: the last", pond.read(0, 59), 60);
    }

    // ---- shift

    private static void shifted(int i, int other, int j, int n) {
        IceBears pond = rows(6, 6);
        due("36: " + n + " from " + i + " to " + j + " of " + other, pond.shift(0, i, other, j, n), n);
        for (int tape = 0; tape < 2; tape++) {
            for (int k = 0; k < 6; k++) {
                boolean isNew = tape == other && k >= j && k < j + n;
                due("36: " + k + " of " + tape, pond.read(tape, k), isNew ? i + k - j + 1 : 100 * tape + k + 1);
            }
        }
    }

    /**
     * Promise 36: "n items of a TAPE from i on come to another one (or the same) from j on, as they all were before: n."
     */
    private static void everyShiftWithinTheEnds() {
        for (int other = 0; other < 2; other++) {
            for (int n = 0; n <= 6; n++) {
                for (int i = 0; i <= 6 - n; i++) for (int j = 0; j <= 6 - n; j++) shifted(i, other, j, n);
            }
        }
        IceBears most = rows(60, 60);
        due("36: sixty", most.shift(1, 0, 0, 0, 60), 60);
        due("36: the first of them", most.read(0, 0), 101);
        due("36: the last of them", most.read(0, 59), 160);
        IceBears none = rows(0, 0);
        due("36: none of none", none.shift(0, 0, 1, 0, 0), 0);
        due("36: one of none", none.shift(0, 0, 1, 0, 1), PLACE);
    }

    /** Promise 36: "PLACE: n, i or j is below 0, or beyond either's end." */
    private static void everyShiftBeyondAnEnd() {
        // Tape 0 has 4 ints, tape 1 has 5.
        for (int n = -1; n <= 6; n++) {
            for (int i = -1; i <= 6; i++) {
                for (int j = -1; j <= 6; j++) {
                    boolean fits = n >= 0 && i >= 0 && j >= 0 && i + n <= 4 && j + n <= 5;
                    due("36: " + n + " from " + i + " to " + j, rows(4, 5).shift(0, i, 1, j, n), fits ? n : PLACE);
                }
            }
        }
        int[][] beyond = {{5, 0, 0}, {0, 6, 0}, {-1, 0, 0}, {0, -1, 0}, {0, 0, -1}, {0, 0, 5}, {2, 0, 3}, {0, 2, 4}};
        for (int[] row : beyond) {
            B.unchanged("36: " + row[2] + " from " + row[0] + " to " + row[1], Ponds::withTapes,
                pond -> pond.shift(0, row[0], 1, row[1], row[2]), PLACE);
        }
        int[] ends = {Integer.MIN_VALUE, Integer.MAX_VALUE};
        for (int end : ends) {
            for (int n = 0; n <= 4; n++) {
                int many = n;
                B.unchanged("36: from " + end, Ponds::withTapes, pond -> pond.shift(0, end, 1, 0, many), PLACE);
                B.unchanged("36: to " + end, Ponds::withTapes, pond -> pond.shift(0, 0, 1, end, many), PLACE);
            }
            B.unchanged("36: " + end + " items", Ponds::withTapes, pond -> pond.shift(0, 0, 1, 0, end), PLACE);
            B.unchanged("36: " + end + " items, on", Ponds::withTapes, pond -> pond.shift(0, 1, 1, 1, end), PLACE);
            B.unchanged("36: all " + end, Ponds::withTapes, pond -> pond.shift(0, end, 1, end, end), PLACE);
        }
    }

    /** Promise 36: "NONE: tapes; NOTHING; CAST: of unlike sorts; PLACE" */
    private static void shiftNamesItsRefusalsInOrder() {
        B.unchanged("36: tape 6, the other nothing", Ponds::withTapes, pond -> pond.shift(6, -1, 5, 0, 1), NONE);
        B.unchanged("36: nothing, the other 6", Ponds::withTapes, pond -> pond.shift(5, 0, 6, -1, 1), NONE);
        B.unchanged("36: nothing, place -1", Ponds::withTapes, pond -> pond.shift(5, -1, 0, 0, 1), NOTHING);
        B.unchanged("36: the other nothing, n -1", Ponds::withTapes, pond -> pond.shift(0, 0, 5, 0, -1), NOTHING);
        B.unchanged("36: nothing to nothing", Ponds::withTapes, pond -> pond.shift(5, 0, 5, 0, 0), NOTHING);
        B.unchanged("36: unlike, place -1", Ponds::withTapes, pond -> pond.shift(0, -1, 2, 0, 1), CAST);
        B.unchanged("36: unlike, none", Ponds::withTapes, pond -> pond.shift(2, 0, 3, 0, 0), CAST);
        for (int sort = 0; sort < 5; sort++) {
            for (int other = 0; other < 5; other++) {
                IceBears pond = new IceBears();
                pond.tape(0, sort, 1);
                pond.tape(1, other, 1);
                due("36: " + sort + " to " + other, pond.shift(0, 0, 1, 0, 1), sort == other ? 1 : CAST);
            }
        }
    }

    public static void main(String[] args) {
        sixTapesHoldNothingAtFirst();
        fiveSorts();
        aRowHasNoneToSixtyItems();
        aTapeThatHoldsNothingHasNoSize();
        aRowMadeAnewIsAllNought();
        tapeNamesItsRefusalsInOrder();
        itemsKeepAsManyBitsAsTheyHave();
        booleansAreNoughtOrOne();
        itemNamesItsRefusalsInOrder();
        readAnswersNo();
        everyShiftWithinTheEnds();
        everyShiftBeyondAnEnd();
        shiftNamesItsRefusalsInOrder();
        B.end();
    }
}
