/** Long runs of calls, drawn by a fixed rule, on the program and on the plain model side by side. */
final class ModelTest {
    private static final int RUNS = 1200, CALLS = 512;
    private static final int[] ODD_NUMBERS = {
        -1, -2, 0, 1, 2, 3, 4, 5, 6, 7, 9, 10, 11, 15, 16, 24, 59, 60, 61, 96, 97, 99, 100, 239, 240, 241,
        999, 1000, 1499, 1500, Integer.MAX_VALUE, Integer.MIN_VALUE};

    private final Check check = new Check("ModelTest");
    private long seed = 88172645463325252L;
    private int calls = 0;

    private int next(int bound) {
        seed ^= seed << 13;
        seed ^= seed >>> 7;
        seed ^= seed << 17;
        return (int) Math.floorMod(seed, (long) bound);
    }

    /** A number of a range, one in twelve times one that may well be beyond it. */
    private int near(int least, int most) {
        if (next(12) == 0) return ODD_NUMBERS[next(ODD_NUMBERS.length)];
        if (next(12) == 0) return next(2) == 0 ? least : most;
        return least + next(most - least + 1);
    }

    private String number() {
        return next(4) == 0 ? "" + next(10) + next(10) : "" + next(26);
    }

    private String fact(int within, int length) {
        if (within < (next(40) == 0 ? 5 : 4) && length < 30) {
            if (next(5) == 0) return "!" + fact(within + 1, length + 1);
            if (next(5) == 0) return "(" + any(within + 1, length + 2) + ")";
        }
        char letter = "hhhdw".charAt(next(5));
        String compared = letter == 'w' ? "" + next(3) : letter == 'd' ? "" + next(6) : number();
        return letter + "" + "<=>".charAt(next(3)) + compared;
    }

    private String any(int within, int length) {
        StringBuilder all = new StringBuilder(fact(within, length));
        while (next(3) == 0) all.append("|&".charAt(next(2))).append(fact(within, length + all.length()));
        return all.toString();
    }

    private String clause() {
        String[] words = {"frost", "frost", "frost", "thaw", "thaw", "snow", "bears"};
        String word = words[next(words.length)];
        if (word.equals("bears")) return "bears " + (next(6) == 0 ? "0" : number());
        return word + " " + (next(3) == 0 ? number() : "" + next(10)) + " " + any(0, 0);
    }

    private String text() {
        StringBuilder all = new StringBuilder(next(3) == 0 ? "frost " + (5 + next(12)) + " h<24" : clause());
        int most = next(8) == 0 ? 11 : 4;
        for (int i = 1; i < most && next(3) != 0; i++) all.append(';').append(clause());
        if (next(14) == 0) for (int i = 0; i < 11; i++) all.append(";bears ").append(next(10));
        if (next(5) == 0) all.setCharAt(next(all.length()), "frosthawnbe dw!()&|<=>;059\u00e9".charAt(next(26)));
        if (next(9) == 0) all.setLength(next(all.length() + 1));
        return all.substring(0, Math.min(all.length(), 100));
    }

    private void due(int run, String call, long got, long want) {
        calls++;
        check.due("run " + run + ": " + call, got, want);
    }

    private void say(int run, IceBears x, Model y, String text) {
        for (int from = 0; from < text.length(); from += 4) {
            int n = Math.min(4, text.length() - from);
            int bytes = next(2) == 0 ? 0 : -1;
            for (int i = 0; i < n; i++) bytes = bytes << 8 | text.charAt(from + i);
            due(run, "feed", x.feed(bytes, n), y.feed(bytes, n));
        }
        due(run, "winter \"" + text + "\"", x.winter(), y.winter());
    }

    private void change(int run, IceBears x, Model y) {
        int a = near(0, 15), b, c, d;
        switch (next(14)) {
            case 0: b = near(0, next(2) == 0 ? 60 : 999); c = near(0, next(2) == 0 ? 9 : 999); d = near(0, 99);
                due(run, "lay", x.lay(a, b, c, d), y.lay(a, b, c, d)); break;
            case 1: case 2: b = near(0, next(3) == 0 ? 9 : 2);
                due(run, "children", x.children(a, b), y.children(a, b)); break;
            case 3: a = next(1 << 30) * 7; b = near(0, 4);
                if (next(20) == 0) due(run, "feed", x.feed(a, b), y.feed(a, b)); break;
            case 4: a = near(0, 9); boolean is = next(2) == 0;
                due(run, "warm", x.warm(a, is), y.warm(a, is)); break;
            case 5: case 6: b = near(0, 6); c = near(0, next(2) == 0 ? 3 : 9);
                due(run, "place", x.place(a, b, c), y.place(a, b, c)); break;
            case 7: a = near(1, next(9) == 0 ? 240 : 20);
                due(run, "go " + a, x.go(a), y.go(a)); break;
            case 8: b = near(0, next(2) == 0 ? 239 : 30); c = near(0, next(2) == 0 ? 1499 : 90);
                due(run, "hole", x.hole(a, b, c), y.hole(a, b, c)); break;
            case 9: a = near(0, 3); b = near(0, 10);
                due(run, "odds", x.odds(a, b), y.odds(a, b)); break;
            case 10: if (next(4) == 0) due(run, "image", x.image(), y.image()); break;
            case 11: if (next(4) == 0) due(run, "undo", x.undo(), y.undo()); break;
            case 12: if (next(3) == 0) say(run, x, y, text()); break;
            default: b = near(0, 2); c = next(3) == 0 ? ODD_NUMBERS[next(ODD_NUMBERS.length)] : next(100);
                due(run, "act", x.act(a, b, c), y.act(a, b, c));
                a = near(0, 9);
                due(run, "trace " + a, x.trace(a), y.trace(a)); break;
        }
    }

    private void ask(int run, IceBears x, Model y) {
        int a = near(0, 15), b, c;
        switch (next(20)) {
            case 0: case 1: case 2: b = near(0, 6);
                due(run, "of " + a + " " + b, x.of(a, b), y.of(a, b)); break;
            case 3: due(run, "fall", x.fall(), y.fall()); break;
            case 4: a = near(0, 999); b = near(0, 2);
                due(run, "told " + a + " " + b, x.told(a, b), y.told(a, b)); break;
            case 5: due(run, "cold " + a, x.cold(a), y.cold(a)); break;
            case 6: a = near(1, 9); due(run, "when " + a, x.when(a), y.when(a)); break;
            case 7: a = near(0, 99); b = near(0, 2);
                due(run, "thin " + a + " " + b, x.thin(a, b), y.thin(a, b)); break;
            case 8: case 9: due(run, "reach " + a, x.reach(a), y.reach(a)); break;
            case 10: a = near(1, 99); b = near(0, 1);
                if (next(4) == 0) due(run, "sweep " + a + " " + b, x.sweep(a, b), y.sweep(a, b)); break;
            case 11: a = near(1, 99);
                if (next(4) == 0) due(run, "lamp " + a, x.lamp(a), y.lamp(a)); break;
            case 12: a = near(1, 240); b = near(0, 999); c = near(0, 2);
                due(run, "board " + a + " " + b + " " + c, x.board(a, b, c), y.board(a, b, c)); break;
            case 13: due(run, "rope", x.rope(), y.rope()); break;
            case 14: a = near(0, 4);
                if (next(3) == 0) due(run, "off " + a, x.off(a), y.off(a)); break;
            case 15: if (next(4) == 0) due(run, "likely", x.likely(), y.likely()); break;
            case 16: a = near(0, next(2) == 0 ? 99 : 3);
                due(run, "blows " + a, x.blows(a), y.blows(a)); break;
            case 17: a = near(1, 96); b = near(0, 1);
                if (next(3) == 0) due(run, "sure " + a + " " + b, x.sure(a, b), y.sure(a, b)); break;
            case 18: b = near(0, 6); due(run, "taken", x.taken(a, b), y.taken(a, b)); break;
            default: a = near(0, 5); due(run, "count " + a, x.count(a), y.count(a)); break;
        }
    }

    private void handleTapes(int run, IceBears x, Model y) {
        int a = near(0, 5), b, c, d, e;
        switch (next(5)) {
            case 0: b = near(-1, 4); c = near(0, 60);
                due(run, "tape", x.tape(a, b, c), y.tape(a, b, c)); break;
            case 1: b = near(0, 20); long v = next(3) == 0 ? seed : next(300) - 100;
                due(run, "item", x.item(a, b, v), y.item(a, b, v)); break;
            case 2: b = near(0, 20); due(run, "read", x.read(a, b), y.read(a, b)); break;
            case 3: b = near(0, 9); c = next(3) == 0 ? a : near(0, 5); d = near(0, 9); e = near(0, 9);
                due(run, "shift", x.shift(a, b, c, d, e), y.shift(a, b, c, d, e)); break;
            default: judge(run, x, y); break;
        }
    }

    /** A row that tells how thick it is, cut short or with one wrong item at times. */
    private void judge(int run, IceBears x, Model y) {
        int tape = near(0, 5), length = 10 + next(12), from = next(5), from2 = near(0, 4);
        due(run, "tape", x.tape(tape, 3, length), y.tape(tape, 3, length));
        for (int cell = 0; cell < 16; cell++) {
            long v = next(30) == 0 ? 7 : y.of(cell, 3);
            due(run, "item", x.item(tape, from + cell, v), y.item(tape, from + cell, v));
        }
        due(run, "judge", x.judge(tape, from), y.judge(tape, from));
        due(run, "judge", x.judge(tape, from2), y.judge(tape, from2));
    }

    /** Ice that bears on some days and not on others, so that odds matter. */
    private void begin(int run, IceBears x, Model y) {
        int thick = next(40), bears = 1 + next(99);
        say(run, x, y, "frost " + (1 + next(9)) + " w=0&h<" + (1 + next(24)) + ";thaw " + next(20) + " w=1;bears " + bears);
        for (int cell = 0; cell < 16; cell++) due(run, "lay", x.lay(cell, thick, 2, 3), y.lay(cell, thick, 2, 3));
        int child = next(16), day = next(10);
        due(run, "children", x.children(child, 1), y.children(child, 1));
        due(run, "warm", x.warm(day, true), y.warm(day, true));
        for (int k = 0; k < 4; k++) {
            int odds = next(11);
            due(run, "odds", x.odds(k, odds), y.odds(k, odds));
        }
        for (int i = 0; i < 8; i++) {
            int n = 1 + next(96), part = next(2);
            due(run, "sure " + n, x.sure(n, part), y.sure(n, part));
            due(run, "go", x.go(3), y.go(3));
        }
    }

    /** Days above 99, and the last hour of all. */
    private void goLate(int run, IceBears x, Model y) {
        for (int i = 9 + next(33); i > 0; i--) due(run, "go", x.go(240), y.go(240));
        for (int i = next(9); i > 0; i--) {
            due(run, "go", x.go(24), y.go(24));
            due(run, "cold", x.cold(i), y.cold(i));
        }
    }

    private void runOnce(int run) {
        IceBears x = new IceBears();
        Model y = new Model();
        calls = 0;
        for (int i = 0; i < 16 && next(4) != 0; i++) {
            int b = next(7), c = next(next(2) == 0 ? 4 : 10);
            due(run, "place", x.place(i, b, c), y.place(i, b, c));
        }
        if (next(5) != 0) say(run, x, y, text());
        if (next(4) == 0) begin(run, x, y);
        if (next(25) == 0) goLate(run, x, y);
        // What one turn makes and the last look stay within what is left of an object's calls.
        while (calls < CALLS - 60) {
            int part = next(20);
            if (part < 8) change(run, x, y);
            else if (part < 19) ask(run, x, y);
            else handleTapes(run, x, y);
        }
        for (int cell = 0; cell < 16; cell++) due(run, "of", x.of(cell, 3), y.of(cell, 3));
    }

    public static void main(String[] args) {
        ModelTest test = new ModelTest();
        for (int run = 1; run <= RUNS && test.check.wrongSoFar() < 50; run++) test.runOnce(run);
        test.check.end();
    }
}
