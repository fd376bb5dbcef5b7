/** Promises 29 to 32: act, trace, taken, count. */
final class ActsTest {
    private static final Check CHECK = new Check("ActsTest");

    private static void due(String call, long got, long want) {
        CHECK.due(call, got, want);
    }

    private static void act(int kind, int act, int x, int want, int... trace) {
        IceBears pond = new IceBears();
        pond.place(5, kind, 3);
        pond.place(6, 6, 9);
        pond.act(6, 2, 1);
        String call = "kind " + kind + " act " + act + " of " + x;
        due("29: " + call, pond.act(5, act, x), want);
        for (int i = 0; i < trace.length; i++) due("30: " + call + ", " + i, pond.trace(i), trace[i]);
        due("30: " + call + ", no more", pond.trace(trace.length), IceBears.NONE);
        due("32: " + call, pond.count(4), trace.length);
    }

    private static void everyKindActsByItsBodies() {
        act(0, 0, 7, 12, 10);
        act(0, 1, 7, 9, 11, 10);
        act(0, 2, 7, 18, 12, 11, 10);
        act(1, 0, 7, 12, 10);
        act(1, 1, 7, 15, 20, 11, 10);
        act(1, 2, 7, 30, 12, 20, 11, 10);
        act(2, 0, 7, 26, 30, 10);
        act(2, 1, 7, 23, 11, 30, 10);
        act(2, 2, 7, 46, 12, 11, 30, 10);
        act(3, 0, 7, -12, 50, 10);
        act(3, 1, 7, -16, 51, 11, 50, 10);
        act(3, 2, 7, -32, 12, 51, 11, 50, 10);
        act(4, 0, 7, 12, 10);
        act(4, 1, 7, 9, 11, 10);
        act(4, 2, 7, 21, 40, 12, 11, 10, 11, 10);
        act(5, 0, 7, 26, 30, 10);
        act(5, 1, 7, 23, 11, 30, 10);
        act(5, 2, 7, 16, 60, 12, 11, 30, 10);
        act(6, 0, 7, -9, 71, 50, 10);
        act(6, 1, 7, -26, 70, 51, 11, 71, 50, 10, 50, 10);
        act(6, 2, 7, -52, 12, 70, 51, 11, 71, 50, 10, 50, 10);
    }

    private static void numbersWrap() {
        act(0, 0, Integer.MAX_VALUE, Integer.MIN_VALUE + 4, 10);
        act(0, 2, Integer.MIN_VALUE, 4, 12, 11, 10);
        act(2, 0, Integer.MAX_VALUE, Integer.MAX_VALUE * 3 + 5, 30, 10);
        act(3, 0, Integer.MIN_VALUE - 5, Integer.MIN_VALUE, 50, 10);
    }

    private static void noSuchCellOrActLeavesNoTrace() {
        int[][] wrong = {{-1, 0}, {16, 0}, {0, -1}, {0, 3}, {16, 3}};
        for (int[] call : wrong) {
            IceBears pond = new IceBears();
            pond.act(0, 2, 5);
            due("30: a trace", pond.trace(0), 12);
            due("29: cell " + call[0] + " act " + call[1], pond.act(call[0], call[1], 5), 0);
            due("30: no trace then", pond.trace(0), IceBears.NONE);
            due("32: none ran", pond.count(4), 0);
        }
        IceBears pond = new IceBears();
        due("30: none yet", pond.trace(0), IceBears.NONE);
        pond.act(15, 1, 0);
        due("30: i -1", pond.trace(-1), IceBears.NONE);
        due("30: i 1", pond.trace(1), 10);
        due("30: i 2", pond.trace(2), IceBears.NONE);
        due("30: i 20", pond.trace(20), IceBears.NONE);
        due("29: the last cell", pond.act(15, 0, 1), 16);
    }

    private static void placesAreTakenForTheirKindAndThoseAbove() {
        int[][] above = {{0}, {1, 0}, {2, 0}, {3, 0}, {4, 0}, {5, 2, 0}, {6, 3, 0}};
        for (int kind = 0; kind < 7; kind++) {
            IceBears pond = new IceBears();
            pond.place(15, kind, 0);
            for (int k = 0; k < 7; k++) {
                int want = -12;
                for (int one : above[kind]) if (one == k) want = kind;
                due("31: kind " + kind + " taken for " + k, pond.taken(15, k), want);
            }
        }
        IceBears pond = new IceBears();
        due("31: k -1", pond.taken(0, -1), IceBears.BAD);
        due("31: k 7, ahead of the cell", pond.taken(16, 7), IceBears.BAD);
        due("31: cell -1", pond.taken(-1, 0), -11);
        due("31: cell 16", pond.taken(16, 6), -11);
    }

    private static void whatIsCounted() {
        IceBears pond = new IceBears();
        Check.read(pond, "bears 1");
        Check.read(pond, "bears 2");
        pond.hole(0, 1, 2);
        Check.write(pond, "bear");
        pond.go(5);
        pond.act(6, 2, 3);
        pond.children(3, 4);
        pond.children(15, 3);
        int[] all = {2, 1, 4, 5, 3, 7};
        for (int what = 0; what < 6; what++) due("32: count " + what, pond.count(what), all[what]);
        due("32: what -1", pond.count(-1), IceBears.BAD);
        due("32: what 6", pond.count(6), IceBears.BAD);
    }

    public static void main(String[] args) {
        everyKindActsByItsBodies();
        numbersWrap();
        noSuchCellOrActLeavesNoTrace();
        placesAreTakenForTheirKindAndThoseAbove();
        whatIsCounted();
        CHECK.end();
    }
}
