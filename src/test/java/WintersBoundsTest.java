/** Promises 6 to 9, sentence by sentence: what is so at each bound, one below it and one above it. */
final class WintersBoundsTest {
    private static final Bounds B = new Bounds("WintersBoundsTest");
    private static final int NONE = IceBears.NONE, BAD = IceBears.BAD, FULL = IceBears.FULL;
    /** Eight bytes and 23 tests: 100 bytes in all. */
    private static final String LONGEST = "frost 7 " + "h=1|".repeat(22) + "h=23";

    private static void due(String call, long got, long want) {
        B.due(call, got, want);
    }

    private static IceBears written(String text) {
        IceBears pond = new IceBears();
        Check.write(pond, text);
        return pond;
    }

    private static void fault(String text, int place) {
        IceBears pond = written(text);
        due("7: \"" + text + "\"", pond.winter(), -10 - place);
        due("7: the text is empty then", pond.count(2), 0);
        due("7: it is no winter", pond.count(0), 0);
    }

    private static void good(String text) {
        IceBears pond = written(text);
        due("7: \"" + text + "\"", pond.winter(), 0);
        due("7: the text is empty then", pond.count(2), 0);
        due("7: it is a winter", pond.count(0), 1);
    }

    // ---- feed

    /**
     * Promise 6: "The n lowest bytes of a number, the highest first (n 0 .. 4), come behind THE TEXT's: how many it has."
     */
    private static void feedTakesNoneToFourBytes() {
        int bytes = 'b' << 24 | 'e' << 16 | 'a' << 8 | 'r';
        String[] lowest = {"", "r", "ar", "ear", "bear"};
        for (int n = 0; n <= 4; n++) {
            IceBears pond = new IceBears();
            due("6: n " + n, pond.feed(bytes, n), n);
            // What is then fed makes a winter of it only if those bytes came in that order.
            String rest = n == 0 ? "bears 3" : n == 4 ? "s 3" : "";
            for (char sign : rest.toCharArray()) pond.feed(sign, 1);
            due("6: \"" + lowest[n] + "\" is read", pond.winter(), n == 0 || n == 4 ? 0 : -10);
        }
        IceBears pond = written("bea");
        due("6: two lowest of a number below 0", pond.feed(0x80000000 | 'r' << 8 | 's', 2), 5);
        due("6: none", pond.feed(-1, 0), 5);
        due("6: one", pond.feed(0xFFFFFF00 | ' ', 1), 6);
        due("6: one more", pond.feed(0x7FFFFF00 | '8', 1), 7);
        due("6: read", pond.winter(), 0);
        due("6: bears 8", pond.told(0, 2), 8);
        B.outside("6: n", (rich, n) -> rich.feed('1', n), 0, 4, BAD);
    }

    /** Promise 6: "A WINTER is read from THE TEXT (bytes, 100 at most)" */
    private static void theTextHasAHundredBytesAtMost() {
        for (int length = 96; length <= 100; length++) {
            for (int n = 0; n <= 4; n++) {
                IceBears pond = written("b".repeat(length));
                boolean fits = length + n <= 100;
                due("6: " + n + " behind " + length, pond.feed('b', n), fits ? length + n : FULL);
                due("6: so many are there", pond.count(2), fits ? length + n : length);
            }
        }
        due("6: 100 bytes are read", written(LONGEST).winter(), 0);
        due("6: 99 bytes are read", written(LONGEST.substring(0, 99)).winter(), 0);
        IceBears again = written(LONGEST);
        again.winter();
        for (int i = 1; i <= 25; i++) due("6: it is empty then, " + i, again.feed(0, 4), 4 * i);
        due("6: and full again", again.feed(0, 1), FULL);
    }

    /** Promise 6: "BAD; FULL." */
    private static void aRefusedFeedPutsNoByteThere() {
        String most = LONGEST.substring(0, 98);
        for (int n = 3; n <= 4; n++) {
            IceBears pond = written(most);
            due("6: " + n + " behind 98", pond.feed('1' << 24 | '1' << 16 | '1' << 8 | '1', n), FULL);
            due("6: 98 still", pond.count(2), 98);
            due("6: two more", pond.feed('2' << 8 | '3', 2), 100);
            due("6: it is a winter with those two alone", pond.winter(), 0);
            due("6: at hour 23", pond.told(23, 0), 7);
            due("6: not at hour 11", pond.told(11, 0), 0);
        }
    }

    /** Promise 6: "BAD; FULL." */
    private static void feedNamesBadAheadOfFull() {
        B.unchanged("6: full, n 5", Ponds::full, pond -> pond.feed('b', 5), BAD);
        B.unchanged("6: full, n -1", Ponds::full, pond -> pond.feed('b', -1), BAD);
        B.unchanged("6: full, n 1", Ponds::full, pond -> pond.feed('b', 1), FULL);
        B.unchanged("6: full, n 4", Ponds::full, pond -> pond.feed('b', 4), FULL);
        B.unchanged("6: full, n 0", Ponds::full, pond -> pond.feed('b', 0), 100);
    }

    // ---- what a winter is

    /** Promise 7: "CLAUSES, 1 to 10, with ; between: frost n E; thaw n E; snow n E; bears n" */
    private static void aWinterHasOneToTenClauses() {
        fault("", 0);
        fault(";", 0);
        for (int many = 1; many <= 10; many++) {
            String text = "bears 1;".repeat(many - 1) + "bears 1";
            good(text);
            if (many < 10) fault(text + ";", text.length() + 1);
            else fault(text + ";", text.length());
        }
        fault("bears 1;".repeat(10) + "bears 1", 79);
        good("frost 9 h<1;snow 1 w=0;thaw 1 d=1;bears 1;bears 1;bears 1;bears 1;bears 1;bears 1;snow 1 h=1");
        fault("bears 1;;bears 1", 8);
        fault(";bears 1", 0);
        fault("bears 1:bears 1", 7);
    }

    /** Promise 7: "one blank ahead of each part behind the word" */
    private static void eachPartHasOneBlankAheadOfIt() {
        String[] words = {"frost", "thaw", "snow"};
        for (String word : words) {
            int w = word.length();
            good(word + " 1 h<1");
            fault(word + "1 h<1", w);
            fault(word + "  1 h<1", w + 1);
            fault(word + " 1h<1", w + 2);
            fault(word + " 1  h<1", w + 3);
            fault(word + " 1 h<1 ", w + 6);
            fault(word + " 1 h <1", w + 4);
            fault(" " + word + " 1 h<1", 0);
        }
        good("bears 1");
        fault("bears1", 5);
        fault("bears  1", 6);
        fault("bears 1 ", 7);
        fault("bears\t1", 5);
        fault("bears 1; bears 1", 8);
    }

    /** Promise 7: "n 1 or 2 digits" */
    private static void aClausesNumberHasOneOrTwoDigits() {
        String[] words = {"frost ", "thaw ", "snow ", "bears "};
        for (String word : words) {
            String rest = word.equals("bears ") ? "" : " h<1";
            int w = word.length();
            fault(word + rest, w);
            for (String n : new String[] {"0", "9", "00", "09", "10", "99"}) good(word + n + rest);
            fault(word + "100" + rest, w + 2);
            fault(word + "000" + rest, w + 2);
            fault(word + "-1" + rest, w);
            fault(word + "+1" + rest, w);
            fault(word + "/" + rest, w);
            fault(word + ":" + rest, w);
            fault(word + "1/" + rest, w + 1);
            fault(word + "1:" + rest, w + 1);
        }
    }

    /** Promise 7: "F: !F, (E), or a TEST: a letter, < or = or >, a number (1 or 2 digits)" */
    private static void aTestHasALetterASignAndANumber() {
        for (char letter = 1; letter < 256; letter++) {
            boolean begins = letter == 'h' || letter == 'd' || letter == 'w';
            if (begins) good("snow 1 " + letter + "=1");
            else fault("snow 1 " + letter + "=1", letter == '!' || letter == '(' ? 8 : 7);
        }
        for (char sign = 1; sign < 256; sign++) {
            if (sign == '<' || sign == '=' || sign == '>') good("snow 1 h" + sign + "1");
            else fault("snow 1 h" + sign + "1", 8);
        }
        for (String n : new String[] {"0", "9", "00", "09", "10", "23", "24", "99"}) good("snow 1 h=" + n);
        fault("snow 1 h=", 9);
        fault("snow 1 h=100", 11);
        fault("snow 1 h=000", 11);
        fault("snow 1 h=-1", 9);
        fault("snow 1 h==1", 9);
        fault("snow 1 h<=1", 9);
        fault("snow 1 hd=1", 8);
        fault("snow 1 =1", 7);
    }

    /** Promise 7: "E: T or T|E. T: F or F&T." */
    private static void eachJointStandsBetweenTwo() {
        for (char joint : new char[] {'|', '&'}) {
            good("snow 1 h=1" + joint + "h=2");
            good("snow 1 h=1" + joint + "(h=2" + joint + "h=3)");
            fault("snow 1 " + joint + "h=1", 7);
            fault("snow 1 h=1" + joint, 11);
            fault("snow 1 h=1" + joint + joint + "h=2", 11);
            fault("snow 1 h=1" + joint + ";bears 1", 11);
            fault("snow 1 (h=1" + joint + ")", 12);
            fault("snow 1 (" + joint + "h=1)", 8);
            fault("snow 1 !" + joint + "h=1", 8);
        }
        good("snow 1 " + "h=1&".repeat(22) + "h=11");
        good("snow 1 " + "h=1|".repeat(22) + "h=11");
        fault("snow 1 h=1h=2", 10);
        fault("snow 1 ()", 8);
        fault("snow 1 )", 7);
        fault("snow 1 h=1)", 10);
        fault("snow 1 (h=1))", 12);
        fault("snow 1 (h=1", 11);
        fault("snow 1 (h=1(", 11);
        fault("snow 1 h=1!", 10);
        fault("snow 1 !", 8);
        fault("snow 1 (", 8);
    }

    /** Promise 7: "A ( or ! within 4 others is none." */
    private static void fourMayStandWithinOneAnother() {
        for (int depth = 0; depth <= 4; depth++) {
            for (int shape = 0; shape < 1 << depth; shape++) {
                StringBuilder open = new StringBuilder();
                for (int i = 0; i < depth; i++) open.append("!(".charAt(shape >> i & 1));
                String close = ")".repeat(Integer.bitCount(shape));
                good("snow 1 " + open + "h=1" + close);
                if (depth < 4) continue;
                fault("snow 1 " + open + "!h=1" + close, 11);
                fault("snow 1 " + open + "(h=1)" + close, 11);
                fault("snow 1 " + open + "(", 11);
                fault("snow 1 " + open + "!", 11);
            }
        }
    }

    /** Promise 7: "A ( or ! within 4 others is none." */
    private static void thoseBesideDoNotCount() {
        good("snow 1 ((((h=1))))|((((h=2))))");
        good("snow 1 !!!!h=1&!!!!h=2|!!!!h=3");
        good("snow 1 (((!h=1&!h=2|(h=3)&!h=4)))");
        good("snow 1 !(h=1)&!(h=2)&!(h=3)&!(h=4)&!(h=5)");
        good("snow 1 ((((h=1))));snow 1 ((((h=1))))");
        fault("snow 1 (((!h=1&!!h=2)))", 16);
        fault("snow 1 ((((h=1&!h=2))))", 15);
        fault("snow 1 ((((h=1)&((h=2)))))", 17);
    }

    /** Promise 7: "The FAULT: the place of the first byte with which none begins so" */
    private static void theFirstWrongByteIsTheFault() {
        String text = "frost 12 !(h<8|d>17)&w=1;thaw 6 h=5&(d<2);snow 2 h=3;bears 10";
        for (int place = 0; place <= text.length(); place++) {
            fault(text.substring(0, place) + "#", place);
            if (place < text.length()) fault(text.substring(0, place) + "#" + text.substring(place + 1), place);
            fault(text.substring(0, place) + (char) 0xE9, place);
        }
        for (int sign = 0; sign < 256; sign++) {
            boolean begins = sign == 'f' || sign == 't' || sign == 's' || sign == 'b';
            fault((char) sign + "#", begins ? 1 : 0);
        }
        fault("#".repeat(100), 0);
        fault(LONGEST.substring(0, 99) + "#", 99);
        fault(LONGEST.substring(0, 98) + "#3", 98);
    }

    /** Promise 7: "(the end of THE TEXT, if it ends too early)" */
    private static void theEndIsTheFaultOfATextTooShort() {
        String text = "frost 12 !(h<8|d>17)&w=1;thaw 6 h=5;bears 10";
        for (int end = 0; end <= text.length(); end++) {
            String begun = text.substring(0, end);
            boolean isWinter = begun.endsWith(")") || begun.endsWith("w=1") || begun.endsWith("h=5")
                || begun.endsWith("bears 1") || begun.endsWith("bears 10");
            if (isWinter) good(begun);
            else fault(begun, end);
        }
        fault(LONGEST.substring(0, 97), 97);
        fault(LONGEST.substring(0, 98), 98);
        fault("frost 11 " + "h=1|".repeat(22) + "!h=", 100);
        fault("frost 1 " + "h=1|".repeat(23), 100);
    }

    // ---- winter

    /** Promise 7: "THE TEXT, which is empty then, is a WINTER, and holds: its number." */
    private static void wintersAreNumberedFromNoughtToFour() {
        IceBears pond = new IceBears();
        for (int number = 0; number < 5; number++) {
            Check.write(pond, "bears " + (10 + number));
            due("7: so many bytes", pond.count(2), 8);
            due("7: winter " + number, pond.winter(), number);
            due("7: no bytes", pond.count(2), 0);
            due("7: so many winters", pond.count(0), number + 1);
            due("7: it holds", pond.told(0, 2), 10 + number);
            due("7: it can be off", pond.off(number), 0);
            due("7: there is no next", pond.off(number + 1), NONE);
        }
    }

    /** Promise 7: "FULL: there are 5 (THE TEXT stays)" */
    private static void aSixthWinterIsOneTooMany() {
        IceBears pond = new IceBears();
        for (int number = 0; number < 5; number++) Check.read(pond, "bears " + number);
        due("7: no text at all", pond.winter(), FULL);
        Check.write(pond, "bears 9");
        due("7: a winter", pond.winter(), FULL);
        due("7: the text stays", pond.count(2), 7);
        due("7: again", pond.winter(), FULL);
        due("7: bytes come behind it", pond.feed('9', 1), 8);
        due("7: the fifth holds", pond.told(0, 2), 4);
        due("7: there are five", pond.count(0), 5);
        B.unchanged("7: full ahead of the fault", Ponds::full, IceBears::winter, FULL);
        IceBears four = new IceBears();
        for (int number = 0; number < 4; number++) Check.read(four, "bears " + number);
        due("7: a fault is no winter", Check.read(four, "bears x"), -16);
        due("7: so a fifth can be read", Check.read(four, "bears 9"), 4);
        due("7: and no more", Check.read(four, "bears 9"), FULL);
    }

    /** Promise 7: "-10 less the FAULT (the one that held holds)." */
    private static void aFaultLeavesTheOneThatHeld() {
        IceBears pond = new IceBears();
        due("7: a fault", Check.read(pond, "frost 5 h<24;bears 3;snow 9 h<24;x"), -43);
        due("7: none holds: frost", pond.told(0, 0), 0);
        due("7: none holds: falls", pond.told(0, 1), 0);
        due("7: none holds: bears", pond.told(0, 2), 10);
        due("7: none was read", pond.off(0), NONE);
        Check.read(pond, "frost 4 h=2;bears 7");
        due("7: a fault", Check.read(pond, "frost 5 h<24;bears 3;snow 9 h<24;x"), -43);
        due("7: the first holds: frost", pond.told(2, 0), 4);
        due("7: the first holds: frost elsewhere", pond.told(1, 0), 0);
        due("7: the first holds: bears", pond.told(0, 2), 7);
        due("7: a fault at 0", pond.winter(), -10);
        due("7: the first holds still", pond.told(2, 0), 4);
        due("7: one was read", pond.count(0), 1);
        due("7: what comes next has nothing of the faulty one", Check.read(pond, "thaw 1 h=7"), 1);
        due("7: its frost", pond.told(7, 0), -1);
        due("7: no more frost", pond.told(2, 0), 0);
        due("7: it snows no more", pond.told(0, 1), 0);
        due("7: bears", pond.told(0, 2), 10);
    }

    /** Promise 7: "-10 less the FAULT (the one that held holds)." */
    private static void aFaultLeavesNothingForTheNextWinter() {
        IceBears pond = new IceBears();
        String many = "frost 5 w=0;frost 6 w=0;snow 7 w=0;snow 8 w=0;bears 3;bears 4;";
        due("7: a fault behind six clauses", Check.read(pond, many), -10 - many.length());
        due("7: one clause", Check.read(pond, "frost 1 h=5"), 0);
        due("7: no frost of the faulty one", pond.told(0, 0), 0);
        due("7: no snow of it", pond.told(0, 1), 0);
        due("7: no bears of it", pond.told(0, 2), 10);
        String end = LONGEST.substring(0, 98);
        for (int i = 0; i < 4; i++) due("7: a long fault, " + i, Check.read(pond, end), -108);
        due("7: a long winter", Check.read(pond, LONGEST), 1);
        due("7: at hour 23", pond.told(23, 0), 7);
        due("7: at hour 1", pond.told(1, 0), 7);
        due("7: at hour 2", pond.told(2, 0), 0);
        due("7: the first is as it was", pond.off(0), 0);
    }

    /** Promise 7: "The newest WINTER holds (5 at most); without one there are no CLAUSES." */
    private static void theNewestOfFiveHolds() {
        IceBears pond = new IceBears();
        due("7: no clauses: frost", pond.told(0, 0), 0);
        due("7: no clauses: falls", pond.told(0, 1), 0);
        due("7: no clauses: bears", pond.told(0, 2), 10);
        due("7: no clauses: never", pond.when(1), -5);
        for (int number = 0; number < 5; number++) {
            Check.read(pond, "frost " + (9 - number) + " h=1;snow " + number + " h=1");
            due("7: frost of the newest", pond.told(1, 0), 9 - number);
            due("7: falls of the newest", pond.told(1, 1), number);
        }
    }

    // ---- told

    private static void told(String winter, int what, int hour, int want) {
        IceBears pond = new IceBears();
        Check.read(pond, winter);
        due("8: \"" + winter + "\" " + what + " at " + hour, pond.told(hour, what), want);
    }

    /** Promise 8: "Of an HOUR (0 .. 999) what 0 FROST, 1 what FALLS; 2 bears (0 as 1)." */
    private static void hoursToldHaveTheirBounds() {
        told("frost 5 h=0&d=0", 0, 0, 5);
        told("frost 5 h=1&d=0", 0, 1, 5);
        told("frost 5 h=15&d=41", 0, 999, 5);
        told("frost 5 h=14&d=41", 0, 998, 5);
        told("snow 5 h=15&d=41", 1, 999, 5);
        told("bears 3", 2, 999, 3);
        told("bears 0", 2, 0, 1);
        told("bears 1", 2, 0, 1);
        told("bears 2", 2, 0, 2);
        told("bears 99", 2, 0, 99);
        for (int what = 0; what < 3; what++) {
            int one = what;
            B.outside("8: hour, what " + what, (pond, n) -> pond.told(n, one), 0, 999, -1002);
        }
        B.outside("8: what", (pond, n) -> pond.told(0, n), 0, 2, -1001);
    }

    /** Promise 8: "-1001: NONE: what; -1002: BAD." */
    private static void toldNamesWhatAheadOfTheHour() {
        B.refused("8: hour -1, what 3", pond -> pond.told(-1, 3), -1001);
        B.refused("8: hour 1000, what -1", pond -> pond.told(1000, -1), -1001);
        B.refused("8: hour 1000, what 2", pond -> pond.told(1000, 2), -1002);
        // The lowest frost that there can be on an hour is far from the answers of a refusal.
        told("thaw 99 w=0;".repeat(7) + "thaw 99 w=0", 0, 0, -792);
        told("frost 99 w=0;".repeat(6) + "frost 99 w=0", 0, 0, 693);
    }

    /**
     * Promise 8: "FROST of an HOUR: the n of all frost whose E holds, together, less those of all thaw (may be below
     * 0)."
     */
    private static void frostMayBeBelowNought() {
        told("frost 1 h=0;thaw 1 h=0", 0, 0, 0);
        told("frost 1 h=0;thaw 2 h=0", 0, 0, -1);
        told("frost 2 h=0;thaw 1 h=0", 0, 0, 1);
        told("frost 0 h=0", 0, 0, 0);
        told("frost 1 h=0;frost 1 h=0;frost 1 h=1", 0, 0, 2);
        told("thaw 1 h=0;thaw 1 h=0;thaw 1 h=1", 0, 0, -2);
        told("frost 5 h=0;snow 3 h=0;bears 7", 0, 0, 5);
        told("snow 3 h=0;bears 7", 0, 0, 0);
    }

    /** Promise 8: "FALLS: likewise by snow." */
    private static void whatFallsIsToldWhole() {
        told("frost 5 h=0;thaw 3 h=0;bears 7", 1, 0, 0);
        told("snow 99 h=0;snow 99 h=0;snow 1 h=1", 1, 0, 198);
        told("snow 0 h=0", 1, 0, 0);
        told("snow 1 h=0", 1, 0, 1);
        told("snow 1 h=0", 1, 1, 0);
    }

    /** Promise 8: "bears: the last one's n (10 without)." */
    private static void theLastBearsIsMeant() {
        told("frost 1 h=0", 2, 0, 10);
        told("bears 9;bears 11", 2, 0, 11);
        told("bears 11;bears 9", 2, 0, 9);
        told("bears 11;frost 1 h=0", 2, 0, 11);
        told("bears 7;bears 0", 2, 0, 1);
        told("bears 1;bears 2;bears 3;bears 4;bears 5;bears 6;bears 7;bears 8;bears 9;bears 12", 2, 0, 12);
    }

    /** Whether E holds, if a, b and c stand for tests that hold or don't, as the bits of a number tell. */
    private static void holdsFor(String e, int bits, boolean want) {
        String text = e;
        for (int i = 0; i < 3; i++) text = text.replace("abc".substring(i, i + 1), (bits >> i & 1) == 1 ? "h=0" : "h=1");
        told("frost 5 " + text, 0, 0, want ? 5 : 0);
    }

    /** Promise 8: "E: T or T|E. T: F or F&T. F: !F, (E), or a TEST" */
    private static void jointsAndBracketsHold() {
        for (int bits = 0; bits < 8; bits++) {
            boolean a = (bits & 1) == 1, b = (bits & 2) == 2, c = (bits & 4) == 4;
            holdsFor("a", bits, a);
            holdsFor("!a", bits, !a);
            holdsFor("(a)", bits, a);
            holdsFor("a|b", bits, a || b);
            holdsFor("a&b", bits, a && b);
            holdsFor("a|b|c", bits, a || b || c);
            holdsFor("a&b&c", bits, a && b && c);
            holdsFor("a|b&c", bits, a || b && c);
            holdsFor("a&b|c", bits, a && b || c);
            holdsFor("(a|b)&c", bits, (a || b) && c);
            holdsFor("a&(b|c)", bits, a && (b || c));
            holdsFor("!a|b", bits, !a || b);
            holdsFor("!a&b", bits, !a && b);
            holdsFor("!(a|b)", bits, !a && !b);
            holdsFor("!(a&b)|c", bits, !a || !b || c);
            holdsFor("a|!b&!c", bits, a || !b && !c);
        }
    }

    /** Promise 8: "A ( or ! within 4 others is none." */
    private static void fourWithinOneAnotherHold() {
        for (int bits = 0; bits < 8; bits++) {
            boolean a = (bits & 1) == 1, b = (bits & 2) == 2, c = (bits & 4) == 4;
            holdsFor("!!a", bits, a);
            holdsFor("!!!a", bits, !a);
            holdsFor("!!!!a", bits, a);
            holdsFor("((((a))))", bits, a);
            holdsFor("!(!(a))", bits, a);
            holdsFor("!(!(a|b)&c)", bits, a || b || !c);
            holdsFor("a|b&(a|b&(a|b&(a|b&(c|a&b))))", bits, a || b && c);
            holdsFor("a&(b|a&(b|a&(b|a&(c|b))))", bits, a && (b || c));
            holdsFor("((((a|b)&c)|a)&b)", bits, ((a || b) && c || a) && b);
        }
        told("frost 5 " + "h=1|".repeat(22) + "h=0", 0, 0, 5);
        told("frost 5 " + "h=0&".repeat(22) + "h=0", 0, 0, 5);
        told("frost 5 " + "h=0&".repeat(22) + "h=1", 0, 0, 0);
        told("frost 5 h=1&" + "h=0&".repeat(21) + "h=0", 0, 0, 0);
    }

    private static void compared(String letter, int hour, int value) {
        for (int number = Math.max(0, value - 1); number <= value + 1; number++) {
            told("frost 5 " + letter + "<" + number, 0, hour, value < number ? 5 : 0);
            told("frost 5 " + letter + "=" + number, 0, hour, value == number ? 5 : 0);
            told("frost 5 " + letter + ">" + number, 0, hour, value > number ? 5 : 0);
        }
    }

    /** Promise 8: "h the HOUR modulo 24" */
    private static void hoursWrapAtTwentyFour() {
        int[][] hourValue = {{0, 0}, {1, 1}, {9, 9}, {10, 10}, {22, 22}, {23, 23}, {24, 0}, {25, 1}, {47, 23}, {48, 0},
            {983, 23}, {984, 0}, {999, 15}};
        for (int[] row : hourValue) compared("h", row[0], row[1]);
        told("frost 5 h>23", 0, 23, 0);
        told("frost 5 h<24", 0, 23, 5);
        told("frost 5 h=24", 0, 24, 0);
        told("frost 5 h=99", 0, 99, 0);
        told("frost 5 h<0", 0, 24, 0);
    }

    /** Promise 8: "d the DAY (HOUR by 24, cut, modulo 100)" */
    private static void daysAreCutAndWrapAtAHundred() {
        int[][] hourValue = {{0, 0}, {23, 0}, {24, 1}, {47, 1}, {48, 2}, {239, 9}, {240, 10}, {959, 39}, {960, 40},
            {983, 40}, {984, 41}, {999, 41}};
        for (int[] row : hourValue) compared("d", row[0], row[1]);
        IceBears pond = new IceBears();
        Check.read(pond, "frost 1 d=99;frost 2 d=0;frost 4 d=1;frost 8 d>97;frost 16 d<1");
        for (int i = 0; i < 9; i++) pond.go(240);
        pond.go(215);
        due("8: hour 2375 is of day 98", pond.cold(0), 8);
        pond.go(1);
        due("8: hour 2376 is of day 99", pond.cold(0), 9);
        pond.go(23);
        due("8: hour 2399 is of day 99", pond.cold(0), 9);
        pond.go(1);
        due("8: hour 2400 is of day 0", pond.cold(0), 18);
        pond.go(23);
        due("8: hour 2423 is of day 0", pond.cold(0), 18);
        pond.go(1);
        due("8: hour 2424 is of day 1", pond.cold(0), 4);
    }

    /** Promise 8: "w 1 if that is a WARM DAY, else 0." */
    private static void warmIsOneOrNought() {
        String[] tests = {"w<0", "w=0", "w>0", "w<1", "w=1", "w>1", "w<2", "w=2", "w>2", "w<99", "w=99"};
        int[] cool = {0, 5, 0, 5, 0, 0, 5, 0, 0, 5, 0};
        int[] warm = {0, 0, 5, 0, 5, 0, 5, 0, 0, 5, 0};
        for (int i = 0; i < tests.length; i++) {
            IceBears pond = new IceBears();
            Check.read(pond, "frost 5 " + tests[i]);
            pond.warm(1, true);
            due("8: " + tests[i] + " on the day ahead", pond.told(23, 0), cool[i]);
            due("8: " + tests[i] + " as a warm day begins", pond.told(24, 0), warm[i]);
            due("8: " + tests[i] + " as it ends", pond.told(47, 0), warm[i]);
            due("8: " + tests[i] + " on the day behind", pond.told(48, 0), cool[i]);
        }
    }

    // ---- warm

    /** Promise 9: "WARM DAYS: of DAYS 0 .. 9, told (none at first)." */
    private static void daysNoughtToNineCanBeWarm() {
        IceBears none = new IceBears();
        Check.read(none, "frost 5 w=1");
        for (int day = 0; day < 42; day++) due("9: none at first, " + day, none.told(Math.min(999, 24 * day), 0), 0);
        for (int warm = 0; warm < 10; warm++) {
            IceBears pond = new IceBears();
            Check.read(pond, "frost 5 w=1");
            pond.warm(warm, true);
            for (int day = 0; day < 41; day++) {
                due("9: day " + day + " beside " + warm, pond.told(24 * day, 0), day == warm ? 5 : 0);
                due("9: day " + day + "'s end beside " + warm, pond.told(24 * day + 23, 0), day == warm ? 5 : 0);
            }
        }
        B.outside("9: day", (pond, n) -> pond.warm(n, true), 0, 9, NONE);
        B.outside("9: day", (pond, n) -> pond.warm(n, false), 0, 9, NONE);
    }

    /** Promise 9: "A DAY (0 .. 9) is WARM, or not: 1 if it was, 0. NONE." */
    private static void warmAnswersWhatItWas() {
        for (int day = 0; day < 10; day++) {
            IceBears pond = new IceBears();
            due("9: not at first", pond.warm(day, false), 0);
            due("9: not still", pond.warm(day, true), 0);
            due("9: it was", pond.warm(day, true), 1);
            due("9: it was still", pond.warm(day, false), 1);
            due("9: it is no more", pond.warm(day, false), 0);
        }
    }

    /** Promise 9: "d the DAY (HOUR by 24, cut, modulo 100)" */
    private static void dayAHundredIsWarmAsDayNought() {
        IceBears pond = new IceBears();
        Check.read(pond, "frost 5 w=1");
        pond.warm(0, true);
        pond.warm(9, true);
        for (int i = 0; i < 9; i++) pond.go(240);
        pond.go(239);
        due("9: hour 2399, day 99", pond.cold(0), 0);
        pond.go(1);
        due("9: hour 2400, day 100", pond.cold(0), 5);
        pond.go(24);
        due("9: hour 2424, day 101", pond.cold(0), 0);
        pond.go(192);
        due("9: hour 2616, day 109", pond.cold(0), 5);
        pond.go(24);
        due("9: hour 2640, day 110", pond.cold(0), 0);
    }

    public static void main(String[] args) {
        feedTakesNoneToFourBytes();
        theTextHasAHundredBytesAtMost();
        aRefusedFeedPutsNoByteThere();
        feedNamesBadAheadOfFull();
        aWinterHasOneToTenClauses();
        eachPartHasOneBlankAheadOfIt();
        aClausesNumberHasOneOrTwoDigits();
        aTestHasALetterASignAndANumber();
        eachJointStandsBetweenTwo();
        fourMayStandWithinOneAnother();
        thoseBesideDoNotCount();
        theFirstWrongByteIsTheFault();
        theEndIsTheFaultOfATextTooShort();
        wintersAreNumberedFromNoughtToFour();
        aSixthWinterIsOneTooMany();
        aFaultLeavesTheOneThatHeld();
        aFaultLeavesNothingForTheNextWinter();
        theNewestOfFiveHolds();
        hoursToldHaveTheirBounds();
        toldNamesWhatAheadOfTheHour();
        frostMayBeBelowNought();
        whatFallsIsToldWhole();
        theLastBearsIsMeant();
        jointsAndBracketsHold();
        fourWithinOneAnotherHold();
        hoursWrapAtTwentyFour();
        daysAreCutAndWrapAtAHundred();
        warmIsOneOrNought();
        daysNoughtToNineCanBeWarm();
        warmAnswersWhatItWas();
        dayAHundredIsWarmAsDayNought();
        B.end();
    }
}
