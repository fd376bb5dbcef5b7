/** What every test of the project shares: counting the answers that are not due. */
final class Check {
    private final String name;
    private int asked = 0;
    private int wrong = 0;

    Check(String name) {
        this.name = name;
    }

    void due(String call, long got, long want) {
        asked++;
        if (got == want) return;
        wrong++;
        if (wrong <= 50) System.out.println(name + ": " + call + " answered " + got + ", due is " + want);
    }

    int wrongSoFar() {
        return wrong;
    }

    /** Ends the program, with 1 if an answer was wrong. */
    void end() {
        System.out.println(name + ": " + asked + " answers, " + wrong + " wrong");
        System.exit(wrong == 0 && asked > 0 ? 0 : 1);
    }

    /** Feeds a text, as many bytes a call as there are, four at most. */
    static void write(IceBears pond, String text) {
        for (int from = 0; from < text.length(); from += 4) {
            int n = Math.min(4, text.length() - from);
            int bytes = 0;
            for (int i = 0; i < n; i++) bytes = bytes << 8 | text.charAt(from + i) & 255;
            pond.feed(bytes, n);
        }
    }

    static int read(IceBears pond, String text) {
        write(pond, text);
        return pond.winter();
    }

    /** A pond in which something is told of everything, some 110 calls old. */
    static IceBears richPond() {
        IceBears pond = new IceBears();
        read(pond, "frost 6 h<24;snow 2 h=3");
        read(pond, "frost 12 h<8|h>17;thaw 6 h>10&h<15;snow 2 h=5;thaw 9 w=1;bears 3");
        write(pond, "frost 7");
        for (int cell = 0; cell < 16; cell++) {
            pond.lay(cell, 20 + 3 * cell, cell, cell % 5);
            pond.place(cell, cell % 7, cell % 10);
            pond.children(cell, cell % 3);
        }
        pond.warm(0, true);
        pond.warm(4, true);
        pond.odds(1, 4);
        pond.hole(3, 7, 20);
        pond.hole(8, 30, 41);
        pond.tape(1, 3, 4);
        pond.item(1, 2, 99);
        pond.tape(2, 4, 0);
        pond.tape(3, 0, 3);
        pond.go(9);
        pond.act(6, 2, 5);
        return pond;
    }

    /** What there is to see of a pond in some 170 calls that change nothing, as one text. */
    static String state(IceBears pond) {
        StringBuilder all = new StringBuilder();
        for (int cell = 0; cell < 16; cell++) {
            all.append(pond.of(cell, 0)).append(' ').append(pond.of(cell, 1)).append(' ');
            all.append(pond.of(cell, 2)).append(' ').append(pond.of(cell, 6)).append(' ');
            all.append(pond.cold(cell)).append(' ').append(pond.taken(cell, 0)).append('\n');
        }
        for (int what = 0; what < 6; what++) all.append(pond.count(what)).append(' ');
        for (int hour = 0; hour < 240; hour += 25) all.append(pond.told(hour, 0)).append(' ');
        all.append(pond.told(5, 1)).append(' ').append(pond.told(5, 2)).append(' ');
        all.append(pond.off(0)).append(' ').append(pond.off(1)).append(' ').append(pond.likely()).append(' ');
        all.append(pond.sure(24, 0)).append(' ').append(pond.sure(40, 1)).append(' ');
        for (int i = 0; i < 10; i++) all.append(pond.trace(i)).append(' ');
        for (int tape = 0; tape < 6; tape++) {
            for (int i = 0; i < 5; i++) all.append(pond.read(tape, i)).append(' ');
            all.append(pond.judge(tape, 0)).append('\n');
        }
        return all.toString();
    }
}
