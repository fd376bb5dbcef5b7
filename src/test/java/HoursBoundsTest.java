/** Promises 10 to 12, sentence by sentence: what is so at each bound, one below it and one above it. */
final class HoursBoundsTest {
    private static final Bounds B = new Bounds("HoursBoundsTest");
    private static final int NONE = IceBears.NONE, BAD = IceBears.BAD, STATE = IceBears.STATE;
    private static final int PLACE = 0, CLEAN = 1, WHITENING = 2, SPRUNG = 3, SUNNED = 4, SHADED = 5, KEPT = 6;
    private static final String CALM = "bears 1", FROST = "frost ", THAW = "thaw ", ALWAYS = " h<24";

    private static void due(String call, long got, long want) {
        B.due(call, got, want);
    }

    private static int[] ice(int clear, int white, int snow) {
        return new int[] {clear, white, snow};
    }

    private static String frost(int n) {
        return FROST + n + ALWAYS;
    }

    private static String thaw(int n) {
        return THAW + n + ALWAYS;
    }

    /** What one hour makes of ice at the first cell, beside fifteen of open water. */
    private static void hour(String winter, int kind, int v, int[] before, int[] behind) {
        hourAt(0, winter, kind, v, before, behind);
    }

    private static void hourAt(int hour, String winter, int kind, int v, int[] before, int[] behind) {
        IceBears pond = new IceBears();
        Check.read(pond, winter);
        if (hour > 0) pond.go(hour);
        pond.place(0, kind, v);
        pond.lay(0, before[0], before[1], before[2]);
        pond.go(1);
        String call = "12: \"" + winter + "\" on " + before[0] + ", " + before[1] + ", " + before[2] + " of kind " + kind
            + " with " + v + " in hour " + hour;
        for (int what = 0; what < 3; what++) due(call + ": " + what, pond.of(0, what), behind[what]);
    }

    // ---- place, cold

    /** Promise 10: "PLACES: each CELL is of a KIND: 0 PLACE (at first)" */
    private static void everyCellIsAPlaceAtFirst() {
        IceBears pond = new IceBears();
        for (int cell = 0; cell < 16; cell++) {
            due("10: taken for a place, " + cell, pond.taken(cell, 0), 0);
            for (int kind = 1; kind < 7; kind++) due("10: and for no other, " + cell, pond.taken(cell, kind), -12);
            due("10: its number is 0, " + cell, pond.act(cell, 1, 0), cell);
            due("10: it was a place, " + cell, pond.place(cell, 1, 0), 0);
        }
    }

    /**
     * Promise 10: "The PLACE of a CELL becomes one of a KIND: the KIND that it was. NONE; BAD: v."
     * Promise 10: "1 CLEAN, 2 WHITENING, 3 SPRUNG, 4 SUNNED under PLACE; 5 SHADED under WHITENING; 6 KEPT under SPRUNG;
     * with a number v (0 .. 9)."
     */
    private static void kindsAndNumbersHaveTheirBounds() {
        for (int cell = 0; cell < 16; cell++) {
            IceBears pond = new IceBears();
            for (int kind = 0; kind < 7; kind++) {
                due("10: the kind that it was", pond.place(cell, kind, 0), Math.max(0, kind - 1));
                due("10: the same with 9", pond.place(cell, kind, 9), kind);
            }
            due("10: back", pond.place(cell, 0, 9), 6);
            due("10: 9 is its number", pond.act(cell, 1, 0), cell - 9);
            pond.place(cell, 0, 0);
            due("10: 0 is its number", pond.act(cell, 1, 0), cell);
            due("10: the next is what it was", pond.taken((cell + 1) % 16, 0), 0);
        }
        B.outside("10: cell", (pond, n) -> pond.place(n, 1, 1), 0, 15, NONE);
        B.outside("10: kind", (pond, n) -> pond.place(2, n, 1), 0, 6, NONE);
        B.outside("10: v", (pond, n) -> pond.place(2, 1, n), 0, 9, BAD);
        B.refused("10: kind 7 and v 10", pond -> pond.place(2, 7, 10), NONE);
        B.refused("10: kind -1 and v -1", pond -> pond.place(2, -1, -1), NONE);
        B.refused("10: cell 16 and v 10", pond -> pond.place(16, 1, 10), NONE);
    }

    /** Promise 11: "COLD of a CELL in the HOUR that comes (whose number is that of now). -1001: NONE." */
    private static void coldIsThatOfTheHourThatComes() {
        IceBears pond = new IceBears();
        Check.read(pond, "frost 5 h=0&d=0;frost 7 h=1;thaw 9 h=2");
        due("11: hour 0", pond.cold(0), 5);
        pond.go(1);
        due("11: hour 1", pond.cold(15), 7);
        pond.go(1);
        due("11: hour 2", pond.cold(0), -9);
        pond.go(1);
        due("11: hour 3", pond.cold(15), 0);
        B.outside("11: cell", (rich, n) -> rich.cold(n), 0, 15, -1001);
        IceBears late = Ponds.full();
        due("11: hour 9999", late.cold(0), 5);
    }

    /** Promise 11: "SUNNED: v less in HOURS 10 .. 15 (modulo 24); SHADED: v more in these." */
    private static void noonIsFromTenToFifteen() {
        for (int v = 0; v <= 9; v += 9) {
            IceBears pond = new IceBears();
            Check.read(pond, frost(5));
            pond.place(0, SUNNED, v);
            pond.place(15, SHADED, v);
            for (int hour = 0; hour <= 48; hour++) {
                boolean isNoon = hour % 24 > 9 && hour % 24 < 16;
                due("11: sunned by " + v + " at " + hour, pond.cold(0), isNoon ? 5 - v : 5);
                due("11: shaded by " + v + " at " + hour, pond.cold(15), isNoon ? 5 + v : 5);
                pond.go(1);
            }
        }
        IceBears late = Ponds.full();
        late.place(0, SUNNED, 9);
        late.place(1, SHADED, 9);
        due("11: sunned in hour 9999, 15 of its day", late.cold(0), -4);
        due("11: shaded in hour 9999, 15 of its day", late.cold(1), 14);
    }

    /** Promise 11: "Then by the COLD of the CELL: FROST; SPRUNG, KEPT: v less" */
    private static void springsTakeTheirNumberInAnyHour() {
        for (int v = 0; v <= 9; v++) {
            IceBears pond = new IceBears();
            Check.read(pond, frost(5));
            for (int kind = 0; kind < 7; kind++) pond.place(kind, kind, v);
            for (int hour = 0; hour < 24; hour += 4) {
                for (int kind = 0; kind < 3; kind++) due("11: kind " + kind, pond.cold(kind), 5);
                due("11: sprung by " + v + " at " + hour, pond.cold(SPRUNG), 5 - v);
                due("11: kept by " + v + " at " + hour, pond.cold(KEPT), 5 - v);
                pond.go(4);
            }
        }
    }

    // ---- go

    /** Promise 12: "n HOURS (1 .. 240) go by: which HOUR it is. BAD; STATE: it would be above 9999." */
    private static void hoursGoByFromOneTo240() {
        IceBears one = new IceBears();
        Check.read(one, "frost 5 d=0&h=0;frost 9 d=0&h=1");
        due("12: one", one.go(1), 1);
        due("12: one has gone by, and no other", one.of(0, 0), 5);
        due("12: the next", one.go(1), 2);
        due("12: 180 by 25 is 7 more", one.of(0, 0), 12);
        IceBears most = new IceBears();
        Check.read(most, "frost 5 d=9&h=23;frost 9 d=10&h=0");
        due("12: 240", most.go(240), 240);
        due("12: the 240th has gone by, and no other", most.of(15, 0), 5);
        IceBears less = new IceBears();
        Check.read(less, "frost 5 d=9&h=23");
        due("12: 239", less.go(239), 239);
        due("12: the 240th has not gone by", less.of(15, 0), 0);
        B.outside("12: n", (pond, n) -> pond.go(n), 1, 240, BAD);
    }

    private static IceBears at(int hour) {
        IceBears pond = Ponds.rich();
        int now = 9;
        while (now + 240 <= hour) now = pond.go(240);
        if (now < hour) pond.go(hour - now);
        return pond;
    }

    /** Promise 12: "STATE: it would be above 9999." */
    private static void noHourIsAbove9999() {
        B.unchanged("12: 240 from 9760 on", () -> at(9760), pond -> pond.go(240), STATE);
        due("12: 239 from 9760 on", at(9760).go(239), 9999);
        due("12: 240 from 9759 on", at(9759).go(240), 9999);
        B.unchanged("12: 2 from 9998 on", () -> at(9998), pond -> pond.go(2), STATE);
        due("12: 1 from 9998 on", at(9998).go(1), 9999);
        B.unchanged("12: 1 from 9999 on", () -> at(9999), pond -> pond.go(1), STATE);
        B.unchanged("12: 240 from 9999 on", () -> at(9999), pond -> pond.go(240), STATE);
        B.unchanged("12: 241 from 9999 on is bad first", () -> at(9999), pond -> pond.go(241), BAD);
        B.unchanged("12: 0 from 9999 on is bad first", () -> at(9999), pond -> pond.go(0), BAD);
        due("12: it is 9999", at(9999).count(3), 9999);
    }

    /** Promise 12: "It is HOUR 0 at first (0 on)." */
    private static void theFirstHourIsNought() {
        due("32: hour 0", new IceBears().count(3), 0);
        due("27: hour 0", new IceBears().image(), 0);
        hour("frost 5 d=0&h=0", PLACE, 0, ice(0, 0, 0), ice(5, 0, 0));
        hour("frost 5 d=0&h=1", PLACE, 0, ice(0, 0, 0), ice(0, 0, 0));
        hour("frost 5 d=99|h=23", PLACE, 0, ice(0, 0, 0), ice(0, 0, 0));
    }

    // ---- an hour

    /** Promise 12: "AN HOUR: in each CELL first SNOW is more by what FALLS (99 at most)" */
    private static void snowIsNinetyNineAtMost() {
        String one = "snow 1" + ALWAYS, three = "snow 3" + ALWAYS, most = "snow 99 h<24;snow 99 h<24";
        hour(one, PLACE, 0, ice(1, 0, 0), ice(1, 0, 1));
        hour(one, PLACE, 0, ice(1, 0, 97), ice(1, 0, 98));
        hour(one, PLACE, 0, ice(1, 0, 98), ice(1, 0, 99));
        hour(one, PLACE, 0, ice(1, 0, 99), ice(1, 0, 99));
        hour(three, PLACE, 0, ice(1, 0, 95), ice(1, 0, 98));
        hour(three, PLACE, 0, ice(1, 0, 96), ice(1, 0, 99));
        hour(three, PLACE, 0, ice(1, 0, 97), ice(1, 0, 99));
        hour(most, PLACE, 0, ice(1, 0, 0), ice(1, 0, 99));
        hour("snow 99" + ALWAYS, PLACE, 0, ice(1, 0, 0), ice(1, 0, 99));
        hour("snow 98" + ALWAYS, PLACE, 0, ice(1, 0, 0), ice(1, 0, 98));
        hour("snow 0" + ALWAYS, PLACE, 0, ice(1, 0, 5), ice(1, 0, 5));
        // It is no more than 99 before the thaw takes of it.
        hour("snow 9 h<24;thaw 2 h<24", PLACE, 0, ice(1, 0, 95), ice(1, 0, 97));
    }

    /** Promise 12: "but not where there is no ice" */
    private static void noSnowFallsOnOpenWater() {
        String snow = "snow 3" + ALWAYS;
        hour(snow, PLACE, 0, ice(0, 0, 0), ice(0, 0, 0));
        hour(snow, PLACE, 0, ice(0, 0, 7), ice(0, 0, 7));
        hour(snow, PLACE, 0, ice(0, 0, 98), ice(0, 0, 98));
        hour(snow, PLACE, 0, ice(1, 0, 0), ice(1, 0, 3));
        hour(snow, PLACE, 0, ice(0, 1, 0), ice(0, 1, 3));
        hour(snow, PLACE, 0, ice(0, 2, 0), ice(0, 2, 3));
        hour("snow 3 h<24;frost 5 h<24", PLACE, 0, ice(0, 0, 0), ice(5, 0, 0));
        hour("snow 3 h<24;thaw 5 h<24", PLACE, 0, ice(1, 1, 0), ice(0, 0, 0));
    }

    /**
     * Promise 12: "COLD above 0: CLEAR is more by 20 times COLD by (20, and CLEAR, and WHITE, and 5 times SNOW) (cut"
     */
    private static void clearIsMoreInColdAboveNoughtAlone() {
        hour(CALM, PLACE, 0, ice(0, 0, 0), ice(0, 0, 0));
        hour(frost(0), PLACE, 0, ice(5, 5, 5), ice(5, 5, 5));
        hour(frost(1), PLACE, 0, ice(0, 0, 0), ice(1, 0, 0));
        hour(frost(1), PLACE, 0, ice(1, 0, 0), ice(1, 0, 0));
        hour(frost(2), PLACE, 0, ice(1, 0, 0), ice(2, 0, 0));
        hour(thaw(1), PLACE, 0, ice(5, 0, 0), ice(4, 0, 0));
        hour("frost 5 h<24;thaw 5 h<24", PLACE, 0, ice(5, 5, 5), ice(5, 5, 5));
        hour("frost 5 h<24;thaw 4 h<24", PLACE, 0, ice(0, 0, 0), ice(1, 0, 0));
        hour("frost 5 h<24;thaw 6 h<24", PLACE, 0, ice(5, 5, 5), ice(5, 5, 4));
    }

    /** Promise 12: "CLEAR is more by 20 times COLD by (20, and CLEAR, and WHITE, and 5 times SNOW) (cut" */
    private static void whatClearIsMoreByIsCut() {
        hour(frost(2), PLACE, 0, ice(19, 0, 0), ice(20, 0, 0));
        hour(frost(2), PLACE, 0, ice(20, 0, 0), ice(21, 0, 0));
        hour(frost(2), PLACE, 0, ice(21, 0, 0), ice(21, 0, 0));
        hour(frost(2), PLACE, 0, ice(0, 20, 0), ice(1, 20, 0));
        hour(frost(2), PLACE, 0, ice(0, 21, 0), ice(0, 21, 0));
        hour(frost(2), PLACE, 0, ice(0, 0, 4), ice(1, 0, 4));
        hour(frost(2), PLACE, 0, ice(0, 0, 5), ice(0, 0, 5));
        hour(frost(2), PLACE, 0, ice(5, 5, 2), ice(6, 5, 2));
        hour(frost(2), PLACE, 0, ice(5, 6, 2), ice(5, 6, 2));
        hour(frost(4), PLACE, 0, ice(20, 0, 0), ice(22, 0, 0));
        hour(frost(4), PLACE, 0, ice(21, 0, 0), ice(22, 0, 0));
        hour(frost(99), PLACE, 0, ice(0, 0, 0), ice(99, 0, 0));
        hour(frost(76), PLACE, 0, ice(0, 999, 99), ice(1, 999, 99));
        hour(frost(75), PLACE, 0, ice(0, 999, 99), ice(0, 999, 99));
    }

    /** Promise 12: "(cut; 999 at most)" */
    private static void clearIs999AtMost() {
        String frost102 = "frost 99 h<24;frost 3 h<24", frost500 = "frost 99 w=0;".repeat(5) + "frost 5 w=0";
        hour(frost(50), PLACE, 0, ice(998, 0, 0), ice(998, 0, 0));
        hour(frost(51), PLACE, 0, ice(998, 0, 0), ice(999, 0, 0));
        hour(frost(51), PLACE, 0, ice(999, 0, 0), ice(999, 0, 0));
        hour(frost102, PLACE, 0, ice(996, 0, 0), ice(998, 0, 0));
        hour(frost102, PLACE, 0, ice(997, 0, 0), ice(999, 0, 0));
        hour(frost102, PLACE, 0, ice(998, 0, 0), ice(999, 0, 0));
        hour(frost102, PLACE, 0, ice(999, 0, 0), ice(999, 0, 0));
        hour(frost500, PLACE, 0, ice(0, 0, 0), ice(500, 0, 0));
        hour(frost500, PLACE, 0, ice(999, 0, 0), ice(999, 0, 0));
    }

    /**
     * Promise 12: "WHITENING, SHADED: and if there is SNOW, 1 of it becomes WHITE (COLD above 0 alone; ahead of CLEAR's
     * growing)."
     */
    private static void oneOfSnowBecomesWhite() {
        int[] kinds = {WHITENING, SHADED};
        for (int kind : kinds) {
            hour(frost(1), kind, 0, ice(0, 5, 0), ice(0, 5, 0));
            hour(frost(1), kind, 0, ice(0, 5, 1), ice(0, 6, 0));
            hour(frost(1), kind, 0, ice(0, 5, 2), ice(0, 6, 1));
            hour(frost(1), kind, 0, ice(0, 5, 99), ice(0, 6, 98));
            hour(frost(9), kind, 0, ice(0, 999, 0), ice(0, 999, 0));
            hour(frost(1), kind, 0, ice(0, 998, 1), ice(0, 999, 0));
            hour(frost(1), kind, 0, ice(0, 999, 1), ice(0, 999, 0));
            hour(frost(0), kind, 0, ice(0, 5, 1), ice(0, 5, 1));
            hour(thaw(1), kind, 0, ice(0, 5, 1), ice(0, 5, 0));
            hour(thaw(1), kind, 0, ice(0, 5, 2), ice(0, 5, 1));
            hour("snow 1 h<24;frost 1 h<24", kind, 0, ice(0, 5, 0), ice(0, 6, 0));
            hour("snow 1 h<24;frost 1 h<24", kind, 0, ice(0, 5, 99), ice(0, 6, 98));
        }
        for (int kind = 0; kind < 7; kind++) {
            if (kind == WHITENING || kind == SHADED) continue;
            hour(frost(1), kind, 0, ice(0, 5, 1), ice(0, 5, kind == CLEAN ? 0 : 1));
        }
    }

    /** Promise 12: "(COLD above 0 alone; ahead of CLEAR's growing)" */
    private static void snowIsLessAheadOfGrowing() {
        hour(frost(2), PLACE, 0, ice(19, 0, 1), ice(19, 0, 1));
        int[] kinds = {WHITENING, SHADED};
        for (int kind : kinds) {
            hour(frost(2), kind, 0, ice(19, 0, 1), ice(20, 1, 0));
            hour(frost(2), kind, 0, ice(20, 0, 1), ice(20, 1, 0));
            hour(frost(2), kind, 0, ice(14, 0, 2), ice(15, 1, 1));
            hour(frost(2), kind, 0, ice(15, 0, 2), ice(15, 1, 1));
        }
        hourAt(9, CALM, SHADED, 1, ice(0, 5, 1), ice(0, 5, 1));
        hourAt(10, CALM, SHADED, 1, ice(0, 5, 1), ice(0, 6, 0));
        hourAt(15, CALM, SHADED, 1, ice(0, 5, 1), ice(0, 6, 0));
        hourAt(16, CALM, SHADED, 1, ice(0, 5, 1), ice(0, 5, 1));
        hourAt(10, CALM, SHADED, 0, ice(0, 5, 1), ice(0, 5, 1));
        hourAt(10, CALM, WHITENING, 9, ice(0, 5, 1), ice(0, 5, 1));
    }

    /** Promise 12: "COLD below 0: it takes as much away from SNOW, then from WHITE, then from CLEAR." */
    private static void aThawTakesNoMoreThanThereIs() {
        hour(thaw(5), PLACE, 0, ice(3, 3, 6), ice(3, 3, 1));
        hour(thaw(5), PLACE, 0, ice(3, 3, 5), ice(3, 3, 0));
        hour(thaw(5), PLACE, 0, ice(3, 3, 4), ice(3, 2, 0));
        hour(thaw(5), PLACE, 0, ice(3, 3, 3), ice(3, 1, 0));
        hour(thaw(5), PLACE, 0, ice(3, 3, 2), ice(3, 0, 0));
        hour(thaw(5), PLACE, 0, ice(3, 3, 1), ice(2, 0, 0));
        hour(thaw(5), PLACE, 0, ice(3, 3, 0), ice(1, 0, 0));
        hour(thaw(5), PLACE, 0, ice(3, 2, 0), ice(0, 0, 0));
        hour(thaw(5), PLACE, 0, ice(3, 1, 0), ice(0, 0, 0));
        hour(thaw(5), PLACE, 0, ice(6, 0, 0), ice(1, 0, 0));
        hour(thaw(5), PLACE, 0, ice(5, 0, 0), ice(0, 0, 0));
        hour(thaw(5), PLACE, 0, ice(4, 0, 0), ice(0, 0, 0));
        hour(thaw(5), PLACE, 0, ice(0, 5, 0), ice(0, 0, 0));
        hour(thaw(5), PLACE, 0, ice(0, 6, 0), ice(0, 1, 0));
        hour(thaw(5), PLACE, 0, ice(0, 4, 0), ice(0, 0, 0));
        hour(thaw(5), PLACE, 0, ice(0, 0, 5), ice(0, 0, 0));
        hour(thaw(5), PLACE, 0, ice(0, 0, 6), ice(0, 0, 1));
        hour(thaw(5), PLACE, 0, ice(0, 0, 0), ice(0, 0, 0));
        hour(thaw(1), PLACE, 0, ice(1, 1, 1), ice(1, 1, 0));
        hour(thaw(99), PLACE, 0, ice(999, 999, 99), ice(999, 999, 0));
        hour("thaw 99 h<24;thaw 1 h<24", PLACE, 0, ice(999, 999, 99), ice(999, 998, 0));
        hour("thaw 99 w=0;".repeat(7) + "thaw 99 w=0", PLACE, 0, ice(0, 693, 99), ice(0, 0, 0));
        hour("thaw 99 w=0;".repeat(7) + "thaw 99 w=0", PLACE, 0, ice(100, 593, 99), ice(0, 0, 0));
        hour("thaw 99 w=0;".repeat(7) + "thaw 99 w=0", PLACE, 0, ice(101, 593, 99), ice(1, 0, 0));
    }

    /** Promise 12: "SPRUNG, KEPT: v less; SUNNED: v less in HOURS 10 .. 15 (modulo 24)" */
    private static void colderAndWarmerPlacesThawOrFreeze() {
        hour(frost(5), SPRUNG, 4, ice(0, 0, 0), ice(1, 0, 0));
        hour(frost(5), SPRUNG, 5, ice(9, 0, 0), ice(9, 0, 0));
        hour(frost(5), SPRUNG, 6, ice(9, 0, 0), ice(8, 0, 0));
        hourAt(9, frost(5), SUNNED, 6, ice(0, 0, 0), ice(5, 0, 0));
        hourAt(10, frost(5), SUNNED, 6, ice(9, 0, 0), ice(8, 0, 0));
        hourAt(10, frost(5), SUNNED, 5, ice(9, 0, 0), ice(9, 0, 0));
        hourAt(15, frost(5), SUNNED, 4, ice(0, 0, 0), ice(1, 0, 0));
        hourAt(16, frost(5), SUNNED, 6, ice(0, 0, 0), ice(5, 0, 0));
        hourAt(39, frost(5), SUNNED, 6, ice(9, 0, 0), ice(8, 0, 0));
        hourAt(40, frost(5), SUNNED, 6, ice(0, 0, 0), ice(5, 0, 0));
        hourAt(10, thaw(5), SHADED, 6, ice(0, 0, 0), ice(1, 0, 0));
        hourAt(10, thaw(5), SHADED, 5, ice(9, 0, 0), ice(9, 0, 0));
        hourAt(10, thaw(5), SHADED, 4, ice(9, 0, 0), ice(8, 0, 0));
        hourAt(16, thaw(5), SHADED, 9, ice(9, 0, 0), ice(4, 0, 0));
    }

    /** Promise 12: "CLEAN: SNOW is 0 then." */
    private static void cleanHasNoSnowBehindAnyHour() {
        hour(CALM, CLEAN, 0, ice(5, 5, 1), ice(5, 5, 0));
        hour(CALM, CLEAN, 0, ice(5, 5, 99), ice(5, 5, 0));
        hour(CALM, CLEAN, 0, ice(5, 5, 0), ice(5, 5, 0));
        hour(CALM, CLEAN, 9, ice(0, 0, 9), ice(0, 0, 0));
        hour(thaw(1), CLEAN, 0, ice(5, 5, 9), ice(5, 5, 0));
        hour(thaw(1), CLEAN, 0, ice(5, 5, 0), ice(5, 4, 0));
        hour("snow 7 h<24;thaw 8 h<24", CLEAN, 0, ice(5, 5, 0), ice(5, 4, 0));
        hour("snow 7 h<24", CLEAN, 0, ice(5, 5, 0), ice(5, 5, 0));
        // It is swept behind the growing, which the snow has slowed.
        hour(frost(2), CLEAN, 0, ice(16, 0, 1), ice(16, 0, 0));
        hour(frost(2), CLEAN, 0, ice(15, 0, 1), ice(16, 0, 0));
    }

    /** Promise 12: "KEPT: if COLD is below 2 times v, there is no ice and no SNOW then." */
    private static void keptIsOpenBelowTwiceItsNumber() {
        int[] numbers = {0, 1, 3, 9};
        for (int v : numbers) {
            // COLD is frost less v: frost 3 v makes it 2 times v.
            hour(frost(3 * v), KEPT, v, ice(0, 950, 99), ice(0, 950, 99));
            hour(frost(3 * v + 1), KEPT, v, ice(0, 950, 99), ice(0, 950, 99));
            if (v > 0) hour(frost(3 * v - 1), KEPT, v, ice(9, 9, 9), ice(0, 0, 0));
            if (v > 0) hour(frost(v), KEPT, v, ice(9, 9, 9), ice(0, 0, 0));
        }
        hour(frost(9), KEPT, 3, ice(0, 0, 0), ice(6, 0, 0));
        hour(frost(8), KEPT, 3, ice(0, 0, 0), ice(0, 0, 0));
        hour(CALM, KEPT, 0, ice(9, 9, 9), ice(9, 9, 9));
        hour(thaw(1), KEPT, 0, ice(9, 9, 9), ice(0, 0, 0));
        hour(frost(1), KEPT, 0, ice(0, 0, 0), ice(1, 0, 0));
        hour("snow 5 h<24;frost 8 h<24", KEPT, 3, ice(9, 9, 9), ice(0, 0, 0));
        hour(thaw(9), KEPT, 3, ice(999, 999, 99), ice(0, 0, 0));
        hour(frost(8), SPRUNG, 3, ice(0, 0, 0), ice(5, 0, 0));
    }

    public static void main(String[] args) {
        everyCellIsAPlaceAtFirst();
        kindsAndNumbersHaveTheirBounds();
        coldIsThatOfTheHourThatComes();
        noonIsFromTenToFifteen();
        springsTakeTheirNumberInAnyHour();
        hoursGoByFromOneTo240();
        noHourIsAbove9999();
        theFirstHourIsNought();
        snowIsNinetyNineAtMost();
        noSnowFallsOnOpenWater();
        clearIsMoreInColdAboveNoughtAlone();
        whatClearIsMoreByIsCut();
        clearIs999AtMost();
        oneOfSnowBecomesWhite();
        snowIsLessAheadOfGrowing();
        aThawTakesNoMoreThanThereIs();
        colderAndWarmerPlacesThawOrFreeze();
        cleanHasNoSnowBehindAnyHour();
        keptIsOpenBelowTwiceItsNumber();
        B.end();
    }
}
