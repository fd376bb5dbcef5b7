/** Promises 6 to 9: feed, winter, told, warm. */
final class WintersTest {
    private static final Check CHECK = new Check("WintersTest");

    private static void due(String call, long got, long want) {
        CHECK.due(call, got, want);
    }

    private static void feedPutsTheLowestBytesHighestFirst() {
        IceBears pond = new IceBears();
        due("6: none", pond.feed(-1, 0), 0);
        due("6: four", pond.feed('b' << 24 | 'e' << 16 | 'a' << 8 | 'r', 4), 4);
        due("6: two, of a number with more", pond.feed(0x7f7f0000 | 's' << 8 | ' ', 2), 6);
        due("6: one, of a negative number", pond.feed(0xffffff00 | '7', 1), 7);
        due("6: n -1", pond.feed(0, -1), IceBears.BAD);
        due("6: n 5", pond.feed(0, 5), IceBears.BAD);
        due("6: winter", pond.winter(), 0);
        due("6: bears 7", pond.told(0, 2), 7);
        for (int i = 1; i <= 24; i++) due("6: fill", pond.feed(0, 4), 4 * i);
        due("6: three more", pond.feed(0, 3), 99);
        due("6: one beyond", pond.feed(0, 2), IceBears.FULL);
        due("6: bad ahead of full", pond.feed(0, 5), IceBears.BAD);
        due("6: still 99", pond.count(2), 99);
        due("6: the hundredth", pond.feed(0, 1), 100);
        due("6: none when full", pond.feed(0, 0), 100);
        due("6: full", pond.feed(0, 1), IceBears.FULL);
        due("6: bytes of 0 are no winter", pond.winter(), -10);
    }

    private static void fault(String text, int place) {
        IceBears pond = new IceBears();
        due("7: \"" + text + "\"", Check.read(pond, text), -10 - place);
        due("7: the text is empty then", pond.count(2), 0);
        due("7: none was read", pond.count(0), 0);
    }

    private static void good(String text) {
        due("7: \"" + text + "\"", Check.read(new IceBears(), text), 0);
    }

    private static void textsThatAreWinters() {
        good("bears 0");
        good("bears 99");
        good("frost 00 h<00");
        good("thaw 7 d=99&w>0|h=1");
        good("snow 12 !h=1");
        good("frost 1 !!!!h=1");
        good("frost 1 ((((h=1))))");
        good("frost 1 !(!(h=1)&!w=0)");
        good("frost 1 (h=1)&(h=2)|!(h=3)&(((( d=1))))".replace(" d", "d"));
        good("bears 1;bears 1;bears 1;bears 1;bears 1;bears 1;bears 1;bears 1;bears 1;bears 1");
        good("frost 9 h<8;bears 1;thaw 2 w=1;snow 3 d>1");
        good("frost 1 " + "h=1|".repeat(22) + "h=11");
    }

    private static void textsThatAreNone() {
        fault("", 0);
        fault(" bears 1", 0);
        fault("x", 0);
        fault("Frost 1 h<1", 0);
        fault("frosh 1 h<1", 4);
        fault("sn", 2);
        fault("thaw", 4);
        fault("thaw ", 5);
        fault("thaw  5 h=1", 5);
        fault("thaw5", 4);
        fault("frost x", 6);
        fault("frost 123 h=1", 8);
        fault("frost 5", 7);
        fault("frost 5;", 7);
        fault("frost 5 ", 8);
        fault("frost 5  h=1", 8);
        fault("frost 5 q=1", 8);
        fault("frost 5 h", 9);
        fault("frost 5 h!1", 9);
        fault("frost 5 h=", 10);
        fault("frost 5 h=x", 10);
        fault("frost 5 h=123", 12);
        fault("frost 5 h=1 ", 11);
        fault("frost 5 h=1)", 11);
        fault("frost 5 h=1&", 12);
        fault("frost 5 h=1&&", 12);
        fault("frost 5 h=1|", 12);
        fault("frost 5 h=1!h=2", 11);
        fault("frost 5 (h=1", 12);
        fault("frost 5 (h=1;", 12);
        fault("frost 5 ()", 9);
        fault("frost 5 !", 9);
        fault("frost 5 !!!!!h=1", 12);
        fault("frost 5 (((((h=1", 12);
        fault("frost 5 !(!((h=1", 12);
        fault("frost 5 (!(!(h=1", 12);
        fault("frost 5 h=1;", 12);
        fault("frost 5 h=1;;", 12);
        fault("bears 5 h=1", 7);
        fault("bears 555", 8);
        fault("bears 1;frost 2 h=1;thaw", 24);
        fault("bears 1;".repeat(10) + "bears 1", 79);
        fault("bears 1;bears 1;bears 1;bears 1;bears 1;bears 1;bears 1;bears 1;bears 1;bears 1;", 79);
        fault("bears 1\u00e9", 7);
        fault("\u00e6", 0);
    }

    private static void theNewestHolds() {
        IceBears pond = new IceBears();
        due("7: first", Check.read(pond, "bears 1"), 0);
        due("7: second", Check.read(pond, "bears 2"), 1);
        due("7: the newest holds", pond.told(0, 2), 2);
        due("7: a fault", Check.read(pond, "bears x"), -16);
        due("7: the one that held holds", pond.told(0, 2), 2);
        for (int i = 2; i < 5; i++) due("7: more", Check.read(pond, "bears 3"), i);
        Check.write(pond, "bear");
        due("7: five is full, ahead of the fault", pond.winter(), IceBears.FULL);
        due("7: the text stays", pond.count(2), 4);
        due("7: it can go on", pond.feed('s', 1), 5);
        due("32: winters", pond.count(0), 5);
        due("7: as it was", pond.told(0, 2), 3);
    }

    private static void whatIsReadUpToAFaultIsForgotten() {
        IceBears pond = new IceBears();
        due("7: two clauses and a fault", Check.read(pond, "frost 9 h<24;bears 3;thaw x"), -36);
        due("7: a good one", Check.read(pond, "frost 1 h=5"), 0);
        due("7: its own frost alone", pond.told(5, 0), 1);
        due("7: at its own hour alone", pond.told(4, 0), 0);
        due("7: no bears", pond.told(5, 2), 10);
        due("7: a long one", Check.read(pond, "frost 1 " + "h=1|".repeat(22) + "h="), -108);
        due("7: again", Check.read(pond, "frost 1 " + "h=1|".repeat(22) + "h="), -108);
        due("7: a long one", Check.read(pond, "frost 7 " + "h=1|".repeat(22) + "h=23"), 1);
        due("7: to its end", pond.told(23, 0), 7);
        due("7: and there alone", pond.told(22, 0), 0);
    }

    private static void told(String text, int what, int hour, int want) {
        IceBears pond = new IceBears();
        Check.read(pond, text);
        due("8: \"" + text + "\" " + what + " at " + hour, pond.told(hour, what), want);
    }

    private static void frostIsAllFrostLessAllThaw() {
        told("frost 5 h<24;frost 7 h=3", 0, 3, 12);
        told("frost 5 h<24;thaw 70 h=3;snow 9 h=3", 0, 3, -65);
        told("frost 5 h<24;snow 9 h=3;snow 90 h=3;snow 1 h=4", 1, 3, 99);
        told("frost 5 h<24", 2, 3, 10);
        told("bears 4;bears 0", 2, 3, 1);
        told("frost 5 h=23", 0, 47, 5);
        told("frost 5 h=23", 0, 48, 0);
        told("frost 5 h>22", 0, 23, 5);
        told("frost 5 h<1", 0, 24, 5);
        told("frost 5 d=41", 0, 999, 5);
        told("frost 5 d>0", 0, 23, 0);
        told("frost 5 d>0", 0, 24, 5);
        told("frost 5 d<1&h=0|h=5&d=2", 0, 53, 5);
        told("frost 5 d<1&h=0|h=5&d=2", 0, 5, 0);
        told("frost 5 h=9|h=0&d=9", 0, 9, 5);
        told("frost 5 (h=9|h=0)&d=9", 0, 9, 0);
        told("frost 5 (h=9|h=0)&d=9", 0, 216, 5);
        told("frost 5 !h=9&d=0", 0, 9, 0);
        told("frost 5 !(h=9&d=1)", 0, 9, 5);
        told("frost 5 !!h=9", 0, 9, 5);
        told("frost 5 h=1&h=1&h=2|h=1", 0, 1, 5);
        told("frost 5 w=0", 0, 1, 5);
        told("frost 5 w>0", 0, 1, 0);
        told("frost 99 h<24;frost 99 h<24;frost 99 h<24;frost 99 h<24;frost 99 h<24;frost 99 h<24", 0, 0, 594);
        IceBears pond = new IceBears();
        due("8: what -1", pond.told(0, -1), -1001);
        due("8: what 3, ahead of the hour", pond.told(-1, 3), -1001);
        due("8: hour -1", pond.told(-1, 0), -1002);
        due("8: hour 1000", pond.told(1000, 2), -1002);
        due("8: hour 999", pond.told(999, 1), 0);
    }

    private static void warmDaysAreTold() {
        IceBears pond = new IceBears();
        Check.read(pond, "frost 3 w=1;thaw 4 w<1");
        due("9: day 0", pond.warm(0, true), 0);
        due("9: again", pond.warm(0, true), 1);
        due("9: day 9", pond.warm(9, true), 0);
        due("9: day -1", pond.warm(-1, true), IceBears.NONE);
        due("9: day 10", pond.warm(10, true), IceBears.NONE);
        due("9: day 0 is warm", pond.told(23, 0), 3);
        due("9: day 1 is not", pond.told(24, 0), -4);
        due("9: day 9 is warm", pond.told(216, 0), 3);
        due("9: day 10 is not", pond.told(240, 0), -4);
        due("9: no more", pond.warm(9, false), 1);
        due("9: day 9 is warm no more", pond.told(216, 0), -4);
        due("9: day 32 is not day 0", pond.told(768, 0), -4);
        for (int i = 0; i < 10; i++) pond.go(240);
        due("9: day 100 is day 0 of the hundred", pond.cold(0), 3);
    }

    public static void main(String[] args) {
        feedPutsTheLowestBytesHighestFirst();
        textsThatAreWinters();
        textsThatAreNone();
        theNewestHolds();
        whatIsReadUpToAFaultIsForgotten();
        frostIsAllFrostLessAllThaw();
        warmDaysAreTold();
        CHECK.end();
    }
}
