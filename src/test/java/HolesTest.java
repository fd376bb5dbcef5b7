/** Promises 20 to 25: hole, off, likely, blows, odds, sure. */
final class HolesTest {
    private static final Check CHECK = new Check("HolesTest");

    private static void due(String call, long got, long want) {
        CHECK.due(call, got, want);
    }

    private static void holesAreTold() {
        IceBears pond = new IceBears();
        due("20: first", pond.hole(0, 0, 0), 1);
        due("20: the edges", pond.hole(15, 239, 1499), 2);
        due("20: cell -1", pond.hole(-1, 0, 0), IceBears.NONE);
        due("20: cell 16, ahead of the hour", pond.hole(16, -1, 0), IceBears.NONE);
        due("20: hour -1", pond.hole(0, -1, 0), IceBears.BAD);
        due("20: hour 240", pond.hole(0, 240, 0), IceBears.BAD);
        due("20: thick -1", pond.hole(0, 0, -1), IceBears.BAD);
        due("20: thick 1500", pond.hole(0, 0, 1500), IceBears.BAD);
        for (int i = 3; i <= 10; i++) due("20: more", pond.hole(0, 0, 0), i);
        due("20: full", pond.hole(0, 0, 0), IceBears.FULL);
        due("20: bad ahead of full", pond.hole(0, 240, 0), IceBears.BAD);
        due("20: none ahead of full", pond.hole(16, 0, 0), IceBears.NONE);
        due("32: holes", pond.count(1), 10);
    }

    private static void howFarAWinterIsOff() {
        // Frost 10 makes 0, 10, 16, 21, 25 of open water; frost 5 makes 0, 5, 9, 12, 15.
        IceBears pond = new IceBears();
        due("21: none was read", pond.off(0), IceBears.NONE);
        due("22: none was read", pond.likely(), -5);
        Check.read(pond, "frost 10 h<24");
        due("21: no holes", pond.off(0), 0);
        Check.read(pond, "frost 5 h<24");
        due("22: of several the least", pond.likely(), 0);
        pond.image();
        pond.hole(0, 0, 7);
        due("21: behind no hour", pond.off(0), 7);
        pond.undo();
        pond.hole(0, 0, 0);
        pond.hole(1, 2, 20);
        pond.hole(2, 4, 20);
        due("21: 0, 4, 5", pond.off(0), 9);
        due("21: 0, 11, 5", pond.off(1), 16);
        due("22: 9 is less", pond.likely(), 0);
        pond.hole(2, 1, 0);
        pond.hole(2, 1, 0);
        due("21: two more, 10 each", pond.off(0), 29);
        due("21: two more, 5 each", pond.off(1), 26);
        due("22: 26 is less", pond.likely(), 1);
        due("21: winter -1", pond.off(-1), IceBears.NONE);
        due("21: winter 2", pond.off(2), IceBears.NONE);
        due("21: it changes nothing", pond.of(2, 3) + pond.count(3), 0);
    }

    private static void aWinterIsGoneThroughFromItsBeginning() {
        IceBears pond = new IceBears();
        Check.read(pond, "frost 10 h<24;snow 3 h=1;thaw 9 w=1");
        pond.hole(5, 2, 0);
        for (int cell = 0; cell < 16; cell++) pond.lay(cell, 500, 500, 50);
        pond.go(31);
        due("21: no ice, hour 0: 10, and 3 snow: 14", pond.off(0), 14);
        pond.place(5, 1, 0);
        pond.lay(5, 10, 0, 0);
        due("21: places as they are: clean", pond.off(0), 14);
        pond.place(5, 3, 5);
        due("21: places as they are: sprung, 5 and 2", pond.off(0), 7);
        pond.place(5, 6, 9);
        due("21: places as they are: kept", pond.off(0), 0);
        pond.place(5, 2, 0);
        due("21: places as they are: whitening, 10, then 2 snow, 1 white, 4", pond.off(0), 14);
        pond.place(5, 0, 0);
        pond.warm(0, true);
        due("21: warm days as they are: 1, 1", pond.off(0), 1);
        Check.read(pond, "bears 1");
        due("21: that of another winter", pond.off(1), 0);
        due("22: the other is likelier", pond.likely(), 1);
        pond.hole(5, 239, 1499);
        due("21: far off", pond.off(1), 1499);
    }

    private static void blowsOfAnAxe() {
        IceBears pond = new IceBears();
        pond.lay(0, 1, 0, 0);
        pond.lay(1, 15, 0, 0);
        pond.lay(2, 16, 0, 0);
        pond.lay(3, 10, 11, 99);
        pond.lay(4, 999, 972, 0);
        pond.lay(5, 999, 974, 0);
        pond.lay(6, 999, 999, 0);
        due("23: 0", pond.blows(0), 0xFF80);
        due("23: 1", pond.blows(1), 1 | 2 | 8);
        due("23: 2", pond.blows(2), 4);
        due("23: 99", pond.blows(99), 1 << 4);
        due("23: 98", pond.blows(98), 0);
        due("23: n -1", pond.blows(-1), IceBears.BAD);
        due("23: n 100", pond.blows(100), IceBears.BAD);
    }

    private static void oddsOfDays() {
        IceBears pond = new IceBears();
        due("24: day 0", pond.odds(0, 10), 0);
        due("24: again", pond.odds(0, 3), 10);
        due("24: day 3", pond.odds(3, 1), 0);
        due("24: k -1", pond.odds(-1, 0), IceBears.NONE);
        due("24: k 4, ahead of n", pond.odds(4, 11), IceBears.NONE);
        due("24: n -1", pond.odds(3, -1), IceBears.BAD);
        due("24: n 11", pond.odds(3, 11), IceBears.BAD);
        due("24: as it was", pond.odds(3, 0), 1);
        pond.go(72);
        due("24: told from now on, whenever that is", pond.odds(0, 0), 3);
    }

    private static void sure(String call, IceBears pond, int n, int above, int below) {
        due(call + ", above", pond.sure(n, 0), above);
        due(call + ", below", pond.sure(n, 1), below);
    }

    private static void howSureItIs() {
        IceBears pond = new IceBears();
        sure("25: no children", pond, 1, 1, 1);
        due("25: n 0", pond.sure(0, 0), IceBears.NO);
        due("25: n 97", pond.sure(97, 0), IceBears.NO);
        due("25: part -1", pond.sure(1, -1), IceBears.NO);
        due("25: part 2", pond.sure(1, 2), IceBears.NO);
        pond.children(5, 1);
        sure("25: children, no ice", pond, 96, 0, 1);
        Check.read(pond, "frost 10 w=0;thaw 99 w=1");
        sure("25: no odds, no warm day", pond, 24, 1, 1);
        pond.warm(0, true);
        sure("25: whatever is told of it", pond, 24, 1, 1);
        pond.odds(0, 3);
        sure("25: 7 of 10", pond, 24, 7, 10);
        pond.odds(1, 4);
        sure("25: 6 of 10, the day before does not matter", pond, 25, 3, 5);
        pond.odds(2, 10);
        sure("25: never", pond, 49, 0, 1);
        pond.odds(3, 5);
        sure("25: the last day", pond, 96, 1, 2);
        due("25: it changes nothing", pond.count(3) + pond.of(5, 3), 0);
    }

    private static void oddsOfMoreDaysTogether() {
        // A day that is not warm makes 10, then 16, then 21; 16 by 16 by 99 is 2, and 10 by 10 by 99 is 1.
        IceBears pond = new IceBears();
        Check.read(pond, "frost 10 h=0&w=0;bears 99");
        pond.children(0, 1);
        pond.odds(0, 3);
        pond.odds(1, 4);
        sure("25: both days", pond, 48, 21, 50);
        pond.odds(2, 5);
        // .7 .6 .5 + .7 .6 .5 + .7 .4 .5 + .3 .6 .5
        sure("25: two of three", pond, 72, 13, 20);
        // All four make 25, which bears 6 of 99; three make 21, which bears 4.
        pond.children(0, 3);
        for (int k = 0; k < 4; k++) pond.odds(k, 9);
        sure("25: all four, none warm", pond, 96, 1, 10000);
        for (int k = 0; k < 4; k++) pond.odds(k, 1);
        sure("25: all four, hardly warm", pond, 96, 6561, 10000);
    }

    private static void theFifthDayIsAsTold() {
        IceBears pond = new IceBears();
        Check.read(pond, "frost 10 w=0;thaw 99 w=1");
        pond.children(5, 1);
        for (int k = 0; k < 4; k++) pond.odds(k, 10);
        pond.go(12);
        sure("25: day 3 is warm", pond, 84, 0, 1);
        sure("25: day 4 is not", pond, 85, 1, 1);
        pond.warm(4, true);
        sure("25: day 4 is, as told", pond, 85, 0, 1);
        for (int i = 0; i < 9; i++) pond.go(240);
        pond.go(228);
        for (int cell = 0; cell < 16; cell++) pond.lay(cell, 0, 0, 0);
        sure("25: day 100: as day 0", pond, 1, 0, 1);
        pond.odds(0, 0);
        sure("25: day 100 has its odds too", pond, 24, 1, 1);
        pond.odds(1, 9);
        sure("25: so has day 101", pond, 25, 1, 10);
    }

    public static void main(String[] args) {
        holesAreTold();
        howFarAWinterIsOff();
        aWinterIsGoneThroughFromItsBeginning();
        blowsOfAnAxe();
        oddsOfDays();
        howSureItIs();
        oddsOfMoreDaysTogether();
        theFifthDayIsAsTold();
        CHECK.end();
    }
}
