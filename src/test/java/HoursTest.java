/** Promises 10 to 12: place, cold, go; what an hour does to each kind. */
final class HoursTest {
    private static final Check CHECK = new Check("HoursTest");

    private static void due(String call, long got, long want) {
        CHECK.due(call, got, want);
    }

    private static IceBears under(String winter) {
        IceBears pond = new IceBears();
        Check.read(pond, winter);
        return pond;
    }

    private static void ice(String call, IceBears pond, int cell, int... clearWhiteSnow) {
        for (int what = 0; what < 3; what++) due(call + ", " + what, pond.of(cell, what), clearWhiteSnow[what]);
    }

    private static void placesBecomeOfAKind() {
        IceBears pond = new IceBears();
        due("10: first", pond.place(0, 6, 9), 0);
        due("10: again", pond.place(0, 0, 0), 6);
        due("10: last cell", pond.place(15, 5, 0), 0);
        due("10: cell -1", pond.place(-1, 0, 0), IceBears.NONE);
        due("10: cell 16", pond.place(16, 0, 0), IceBears.NONE);
        due("10: kind -1", pond.place(15, -1, 0), IceBears.NONE);
        due("10: kind 7", pond.place(15, 7, 10), IceBears.NONE);
        due("10: v -1", pond.place(15, 1, -1), IceBears.BAD);
        due("10: v 10", pond.place(15, 1, 10), IceBears.BAD);
        due("10: as it was", pond.place(15, 1, 1), 5);
    }

    private static void coldIsByKindAndHour() {
        IceBears pond = under("frost 20 h<24");
        for (int kind = 0; kind < 7; kind++) pond.place(kind, kind, 9);
        int[] night = {20, 20, 20, 11, 20, 20, 11};
        int[] noon = {20, 20, 20, 11, 11, 29, 11};
        for (int hour = 0; hour < 24; hour++) {
            for (int kind = 0; kind < 7; kind++) {
                int[] colds = hour >= 10 && hour <= 15 ? noon : night;
                due("11: kind " + kind + " at " + hour, pond.cold(kind), colds[kind]);
            }
            pond.go(1);
        }
        due("11: cell -1", pond.cold(-1), -1001);
        due("11: cell 16", pond.cold(16), -1001);
        due("11: below 0", under("thaw 99 h=0;thaw 99 h=0").cold(15), -198);
    }

    private static void hoursGoBy() {
        IceBears pond = new IceBears();
        due("12: n 0", pond.go(0), IceBears.BAD);
        due("12: n 241", pond.go(241), IceBears.BAD);
        due("12: one", pond.go(1), 1);
        for (int i = 1; i <= 41; i++) due("12: the most", pond.go(240), 1 + 240 * i);
        due("12: beyond 9999", pond.go(159), IceBears.STATE);
        due("12: bad ahead of that", pond.go(241), IceBears.BAD);
        due("12: to 9999", pond.go(158), 9999);
        due("12: no further", pond.go(1), IceBears.STATE);
        due("32: the hour", pond.count(3), 9999);
        due("12: hours beyond can be asked for", pond.when(1), -5);
    }

    private static void clearIceGrows() {
        IceBears pond = under("frost 10 h<24");
        pond.lay(1, 10, 20, 0);
        pond.lay(2, 10, 20, 2);
        pond.lay(3, 999, 999, 0);
        pond.lay(4, 998, 0, 0);
        pond.lay(5, 0, 0, 6);
        pond.go(1);
        ice("12: open water", pond, 0, 10, 0, 0);
        ice("12: white slows", pond, 1, 14, 20, 0);
        ice("12: snow slows", pond, 2, 13, 20, 2);
        ice("12: 999 at most", pond, 3, 999, 999, 0);
        ice("12: cut to none", pond, 4, 998, 0, 0);
        ice("12: snow with no ice", pond, 5, 4, 0, 6);
        pond.go(1);
        ice("12: the second hour", pond, 0, 16, 0, 0);
        IceBears hard = under("frost 99 h<24;frost 99 h<24;frost 99 h<24;frost 99 h<24;frost 99 h<24;frost 99 h<24");
        hard.lay(0, 990, 0, 0);
        hard.go(1);
        ice("12: 11 more is 999 and no more", hard, 0, 999, 0, 0);
    }

    private static void snowFallsOnIceAlone() {
        IceBears pond = under("snow 7 h<24");
        pond.lay(1, 1, 0, 0);
        pond.lay(2, 0, 1, 3);
        pond.lay(3, 5, 5, 93);
        pond.lay(4, 0, 0, 3);
        pond.place(5, 1, 0);
        pond.lay(5, 1, 1, 1);
        pond.go(1);
        ice("12: none on open water", pond, 0, 0, 0, 0);
        ice("12: on clear ice", pond, 1, 1, 0, 7);
        ice("12: on white ice", pond, 2, 0, 1, 10);
        ice("12: 99 at most", pond, 3, 5, 5, 99);
        ice("12: no more where no ice is", pond, 4, 0, 0, 3);
        ice("12: clean", pond, 5, 1, 1, 0);
    }

    private static void thawTakesSnowThenWhiteThenClear() {
        IceBears pond = under("thaw 10 h<24");
        pond.lay(0, 20, 20, 20);
        pond.lay(1, 20, 20, 4);
        pond.lay(2, 20, 4, 4);
        pond.lay(3, 1, 4, 4);
        pond.place(4, 2, 0);
        pond.lay(4, 20, 20, 20);
        pond.place(5, 4, 3);
        pond.lay(5, 20, 0, 0);
        pond.go(1);
        ice("12: snow", pond, 0, 20, 20, 10);
        ice("12: snow, white", pond, 1, 20, 14, 0);
        ice("12: snow, white, clear", pond, 2, 18, 0, 0);
        ice("12: all", pond, 3, 0, 0, 0);
        ice("12: no whitening then", pond, 4, 20, 20, 10);
        ice("12: sunned at night", pond, 5, 10, 0, 0);
        IceBears calm = new IceBears();
        calm.place(0, 2, 0);
        calm.lay(0, 20, 20, 5);
        calm.go(1);
        ice("12: nothing in no cold, no whitening either", calm, 0, 20, 20, 5);
        IceBears mixed = under("thaw 10 h<24;snow 6 h<24");
        mixed.lay(0, 20, 20, 1);
        mixed.go(1);
        ice("12: it falls ahead of the thaw", mixed, 0, 20, 17, 0);
    }

    private static void kindsFreezeOtherwise() {
        IceBears pond = under("frost 10 h<24;snow 1 h=1");
        for (int cell = 0; cell < 8; cell++) pond.lay(cell, 10, 20, 2);
        pond.place(1, 1, 9);
        pond.place(2, 2, 9);
        pond.place(3, 3, 4);
        pond.place(4, 4, 4);
        pond.place(5, 5, 4);
        pond.place(6, 6, 3);
        pond.place(7, 6, 4);
        pond.place(8, 2, 0);
        pond.lay(8, 0, 999, 2);
        pond.place(9, 6, 0);
        pond.go(1);
        ice("12: place", pond, 0, 13, 20, 2);
        ice("12: clean", pond, 1, 13, 20, 0);
        ice("12: whitening", pond, 2, 13, 21, 1);
        ice("12: sprung", pond, 3, 12, 20, 2);
        ice("12: sunned", pond, 4, 13, 20, 2);
        ice("12: shaded", pond, 5, 13, 21, 1);
        ice("12: kept at 7 of 6", pond, 6, 12, 20, 2);
        ice("12: kept at 6 of 8 is open", pond, 7, 0, 0, 0);
        ice("12: white 999 at most", pond, 8, 0, 999, 1);
        ice("12: kept with 0 freezes", pond, 9, 10, 0, 0);
        pond.go(1);
        ice("12: what falls whitens at once", pond, 2, 16, 22, 1);
        pond.go(9);
        pond.lay(3, 10, 20, 2);
        pond.lay(4, 10, 20, 2);
        pond.lay(5, 10, 20, 2);
        pond.go(1);
        ice("12: sprung by day", pond, 3, 12, 20, 2);
        ice("12: sunned by day", pond, 4, 12, 20, 2);
        ice("12: shaded by day", pond, 5, 15, 21, 1);
    }

    private static void keptAndCleanAreSoInAnyCold() {
        IceBears pond = under("frost 9 h=0;frost 8 h=1;thaw 5 h=3;snow 4 h=3");
        pond.place(0, 6, 3);
        pond.place(1, 6, 0);
        pond.place(2, 1, 0);
        pond.lay(0, 10, 20, 2);
        pond.lay(1, 50, 0, 2);
        pond.go(1);
        ice("12: kept at 6 of 6", pond, 0, 12, 20, 2);
        pond.go(1);
        ice("12: kept at 5 of 6", pond, 0, 0, 0, 0);
        pond.lay(2, 10, 0, 9);
        pond.go(1);
        due("12: kept at 0 of 0", pond.of(1, 0) > 50 ? 1 : 0, 1);
        ice("12: clean in no cold", pond, 2, 10, 0, 0);
        pond.go(1);
        ice("12: kept at -5 of 0", pond, 1, 0, 0, 0);
        ice("12: clean in a thaw", pond, 2, 9, 0, 0);
    }

    public static void main(String[] args) {
        placesBecomeOfAKind();
        coldIsByKindAndHour();
        hoursGoBy();
        clearIceGrows();
        snowFallsOnIceAlone();
        thawTakesSnowThenWhiteThenClear();
        kindsFreezeOtherwise();
        keptAndCleanAreSoInAnyCold();
        CHECK.end();
    }
}
