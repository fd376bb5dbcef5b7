/** What the document says of all promises: the answers' numbers, that nothing changes, how long an object is used. */
final class AnswersBoundsTest {
    private static final Bounds B = new Bounds("AnswersBoundsTest");

    private static void due(String call, long got, long want) {
        B.due(call, got, want);
    }

    /** Promises 1 to 36: "public static final int NONE = -1, BAD = -2, STATE = -3, FULL = -4;" */
    private static void theConstants() {
        due("NONE", IceBears.NONE, -1);
        due("BAD", IceBears.BAD, -2);
        due("STATE", IceBears.STATE, -3);
        due("FULL", IceBears.FULL, -4);
    }

    /** Promises 25, 35: "NO = Long.MIN_VALUE: There is no such number." */
    private static void noIsTheLeastLong() {
        due("NO", IceBears.NO, Long.MIN_VALUE);
        IceBears pond = new IceBears();
        due("25: no such fraction", pond.sure(0, 0), Long.MIN_VALUE);
        due("35: no such tape", pond.read(6, 0), Long.MIN_VALUE);
        pond.tape(0, 3, 1);
        pond.item(0, 0, Long.MIN_VALUE);
        due("35: an item can be so, too", pond.read(0, 0), Long.MIN_VALUE);
        pond.item(0, 0, Long.MIN_VALUE + 1);
        due("35: one more", pond.read(0, 0), Long.MIN_VALUE + 1);
    }

    /**
     * Promises 2 to 36: "NONE (-1) no such number; BAD (-2) a number is not as told; STATE (-3) as told; FULL (-4); the
     * first that a call's words name. What is answered so changes nothing; what is asked changes nothing."
     */
    private static void theRefusals() {
        B.refused("2: none", pond -> pond.lay(16, 0, 0, 0), -1);
        B.refused("2: bad", pond -> pond.lay(15, 1000, 0, 0), -2);
        B.unchanged("28: state", IceBears::new, IceBears::undo, -3);
        B.unchanged("12: state", Ponds::full, pond -> pond.go(1), -3);
        B.unchanged("6: full", Ponds::full, pond -> pond.feed(1, 1), -4);
        B.unchanged("7: full", Ponds::full, IceBears::winter, -4);
        B.unchanged("20: full", Ponds::full, pond -> pond.hole(0, 0, 0), -4);
        B.refused("8: none", pond -> pond.told(0, 3), -1001);
        B.refused("8: bad", pond -> pond.told(1000, 0), -1002);
        B.refused("11: none", pond -> pond.cold(16), -1001);
    }

    /** Promises 26, 31, 34, 36: "The host's refusals: NOTHING (-11): nothing is there; CAST (-12): another sort or KIND" */
    private static void theHostsRefusals() {
        B.refused("31: nothing", pond -> pond.taken(16, 0), -11);
        B.refused("34: nothing", pond -> pond.item(5, 0, 0), -11);
        B.refused("36: nothing", pond -> pond.shift(5, 0, 1, 0, 0), -11);
        B.refused("26: cast", pond -> pond.judge(3, 0), -12);
        B.refused("31: cast", pond -> pond.taken(0, 1), -12);
        B.refused("36: cast", pond -> pond.shift(1, 0, 2, 0, 0), -12);
    }

    /** Promises 33, 34, 36: "PLACE (-13): no such place; SIZE (-14): a size below 0." */
    private static void placeAndSize() {
        B.refused("34: place", pond -> pond.item(1, 4, 0), -13);
        B.refused("36: place", pond -> pond.shift(1, 0, 1, 0, 5), -13);
        B.refused("33: size", pond -> pond.tape(1, 0, -1), -14);
    }

    /** Promises 2 to 36: "the first that a call's words name." */
    private static void theFirstOfTwoRefusals() {
        B.refused("2", pond -> pond.lay(16, 1000, 1000, 100), -1);
        B.refused("4", pond -> pond.children(16, 10), -1);
        B.unchanged("6", Ponds::full, pond -> pond.feed(0, 5), -2);
        B.unchanged("7", Ponds::full, IceBears::winter, -4);
        B.refused("8", pond -> pond.told(1000, 3), -1001);
        B.refused("10", pond -> pond.place(16, 7, 10), -1);
        B.unchanged("12", Ponds::full, pond -> pond.go(241), -2);
        B.refused("14", pond -> pond.thin(100, 3), -1);
        B.refused("16", pond -> pond.sweep(100, 2), -1);
        B.refused("18", pond -> pond.board(241, 1000, 3), -1);
        B.unchanged("20", Ponds::full, pond -> pond.hole(16, 240, 1500), -1);
        B.unchanged("20", Ponds::full, pond -> pond.hole(15, 240, 1500), -2);
        B.refused("24", pond -> pond.odds(4, 11), -1);
        B.refused("26", pond -> pond.judge(6, -1), -1);
        B.refused("31", pond -> pond.taken(16, 7), -2);
        B.refused("33", pond -> pond.tape(6, 5, -1), -1);
        B.refused("33", pond -> pond.tape(5, 5, -1), -2);
        B.refused("34", pond -> pond.item(6, -1, 0), -1);
        B.refused("34", pond -> pond.item(5, -1, 0), -11);
        B.refused("36", pond -> pond.shift(6, -1, 5, -1, -1), -1);
        B.refused("36", pond -> pond.shift(0, -1, 5, -1, -1), -11);
        B.refused("36", pond -> pond.shift(1, -1, 2, -1, -1), -12);
    }

    private static void asked(String name, Bounds.Call call) {
        B.unchanged(name + " of a rich pond", Ponds::rich, call, call.on(Ponds.rich()));
        B.unchanged(name + " of a full pond", Ponds::full, call, call.on(Ponds.full()));
        B.unchanged(name + " of a new pond", IceBears::new, call, call.on(new IceBears()));
    }

    /** Promises 3, 5, 8, 11, 13 to 19, 21 to 23, 25, 26, 30 to 32, 35: "what is asked changes nothing." */
    private static void whatIsAskedChangesNothing() {
        for (int what = 0; what < 7; what++) {
            int one = what;
            asked("3: of what " + what, pond -> pond.of(2, one));
        }
        asked("5: fall", IceBears::fall);
        for (int what = 0; what < 3; what++) {
            int one = what;
            asked("8: told, what " + what, pond -> pond.told(999, one));
            asked("14: thin 99, what " + what, pond -> pond.thin(99, one));
            asked("18: board 240, what " + what, pond -> pond.board(240, 1, one));
        }
        asked("11: cold", pond -> pond.cold(6));
        asked("13: when 1", pond -> pond.when(1));
        asked("13: when 9", pond -> pond.when(9));
        asked("15: reach", pond -> pond.reach(15));
        asked("16: sweep 99, the cell", pond -> pond.sweep(99, 0));
        asked("16: sweep 99, how much", pond -> pond.sweep(99, 1));
        asked("17: lamp 99", pond -> pond.lamp(99));
        asked("19: rope", IceBears::rope);
        asked("21: off", pond -> pond.off(0));
        asked("22: likely", IceBears::likely);
        asked("23: blows", pond -> pond.blows(3));
        asked("25: sure 96, above", pond -> pond.sure(96, 0));
        asked("25: sure 96, below", pond -> pond.sure(96, 1));
        asked("26: judge", pond -> pond.judge(1, 0));
        asked("30: trace", pond -> pond.trace(0));
        asked("31: taken", pond -> pond.taken(5, 2));
        asked("32: count", pond -> pond.count(4));
        asked("35: read", pond -> pond.read(1, 2));
    }

    /** Promises 13 to 19: "All that follows is asked, goes on from how all is, and changes nothing." */
    private static void whatIsAskedGoesOnFromHowAllIs() {
        for (int n = 1; n <= 99; n++) {
            IceBears gone = Ponds.rich();
            gone.go(n);
            IceBears still = Ponds.rich();
            for (int what = 0; what < 3; what++) due("14: behind " + n, still.thin(n, what), gone.thin(0, what));
            due("15: now, not behind " + n, still.reach(9), Ponds.rich().reach(9));
            due("12: the hour stays", still.count(3), 9);
        }
    }

    /** Promises 1 to 36: "An object is used for at most 512 calls after it has been made" */
    private static void the512thCallIsAnswered() {
        IceBears tapes = new IceBears();
        tapes.tape(0, 3, 1);
        for (int call = 2; call < 512; call += 2) {
            due("34: call " + call, tapes.item(0, 0, call), 1);
            due("35: call " + (call + 1), tapes.read(0, 0), call);
        }
        due("35: call 512", tapes.read(0, 0), 510);
        IceBears hours = new IceBears();
        for (int call = 1; call <= 512; call++) due("12: call " + call, hours.go(1), call);
        IceBears acts = new IceBears();
        acts.place(0, 6, 0);
        for (int call = 2; call <= 511; call++) due("29: call " + call, acts.act(0, 2, call), 2 * (-call - 3));
        due("32: call 512", acts.count(4), 9);
        IceBears faults = new IceBears();
        for (int call = 1; call <= 512; call += 2) {
            due("6: call " + call, faults.feed('f', 1), 1);
            due("7: call " + (call + 1), faults.winter(), -11);
        }
    }

    public static void main(String[] args) {
        theConstants();
        noIsTheLeastLong();
        theRefusals();
        theHostsRefusals();
        placeAndSize();
        theFirstOfTwoRefusals();
        whatIsAskedChangesNothing();
        whatIsAskedGoesOnFromHowAllIs();
        the512thCallIsAnswered();
        B.end();
    }
}
