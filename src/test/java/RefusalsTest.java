import java.util.function.LongSupplier;

/** What is refused changes nothing, what is asked changes nothing: all calls on a pond that holds something of all. */
final class RefusalsTest {
    private static final Check CHECK = new Check("RefusalsTest");

    private static void due(String call, LongSupplier asked, long want) {
        CHECK.due(call, asked.getAsLong(), want);
    }

    private static void unchanged(String what, IceBears pond, String before) {
        CHECK.due(what + " changes nothing", Check.state(pond).equals(before) ? 1 : 0, 1);
    }

    private static void refusals() {
        IceBears p = Check.richPond();
        String before = Check.state(p);
        int[] cells = {-1, 16, Integer.MIN_VALUE, Integer.MAX_VALUE};
        for (int cell : cells) {
            due("lay", () -> p.lay(cell, 1, 1, 1), -1);
            due("of", () -> p.of(cell, 0), -1);
            due("children", () -> p.children(cell, 1), -1);
            due("place", () -> p.place(cell, 1, 1), -1);
            due("cold", () -> p.cold(cell), -1001);
            due("reach", () -> p.reach(cell), -1);
            due("hole", () -> p.hole(cell, 1, 1), -1);
            due("taken", () -> p.taken(cell, 1), -11);
            due("tape", () -> p.tape(cell, 1, 1), -1);
            due("item", () -> p.item(cell, 1, 1), -1);
            due("read", () -> p.read(cell, 1), IceBears.NO);
            due("judge", () -> p.judge(cell, 1), -1);
            due("shift", () -> p.shift(cell, 0, 1, 0, 1), -1);
            due("shift", () -> p.shift(1, 0, cell, 0, 1), -1);
            due("warm", () -> p.warm(cell, true), -1);
            due("odds", () -> p.odds(cell, 1), -1);
            due("off", () -> p.off(cell), -1);
            due("place kind", () -> p.place(1, cell, 1), -1);
            due("of what", () -> p.of(1, cell), -1);
            due("count", () -> p.count(cell), -2);
            due("taken k", () -> p.taken(1, cell), -2);
        }
        unchanged("none such", p, before);
    }

    private static void badNumbers() {
        IceBears p = Check.richPond();
        String before = Check.state(p);
        int[] numbers = {-1, Integer.MIN_VALUE, Integer.MAX_VALUE};
        for (int n : numbers) {
            due("lay clear", () -> p.lay(2, n, 1, 1), -2);
            due("lay white", () -> p.lay(2, 1, n, 1), -2);
            due("lay snow", () -> p.lay(2, 1, 1, n), -2);
            due("children", () -> p.children(2, n), -2);
            due("feed", () -> p.feed(65, n), -2);
            due("told hour", () -> p.told(n, 0), -1002);
            due("told what", () -> p.told(0, n), -1001);
            due("place", () -> p.place(2, 1, n), -2);
            due("go", () -> p.go(n), -2);
            due("when", () -> p.when(n), -2);
            due("thin", () -> p.thin(n, 0), -2);
            due("thin what", () -> p.thin(1, n), -1);
            due("sweep", () -> p.sweep(n, 0), -2);
            due("sweep what", () -> p.sweep(1, n), -1);
            due("lamp", () -> p.lamp(n), -2);
            due("board", () -> p.board(n, 1, 0), -2);
            due("board s", () -> p.board(1, n, 0), -2);
            due("board what", () -> p.board(1, 1, n), -1);
            due("hole hour", () -> p.hole(2, n, 1), -2);
            due("hole thick", () -> p.hole(2, 1, n), -2);
            due("blows", () -> p.blows(n), -2);
            due("odds", () -> p.odds(2, n), -2);
            due("sure", () -> p.sure(n, 0), IceBears.NO);
            due("sure part", () -> p.sure(1, n), IceBears.NO);
            due("tape n", () -> p.tape(1, 1, n), n < 0 ? -14 : -2);
            due("item i", () -> p.item(1, n, 1), -13);
            due("shift i", () -> p.shift(1, n, 1, 0, 1), -13);
            due("shift j", () -> p.shift(1, 0, 1, n, 1), -13);
            due("shift n", () -> p.shift(1, 0, 1, 0, n), -13);
        }
        due("tape sort", () -> p.tape(1, 5, 1), -2);
        due("tape sort", () -> p.tape(1, -2, 1), -2);
        due("undo", () -> p.undo(), -3);
        due("judge", () -> p.judge(3, 0), -12);
        due("shift", () -> p.shift(1, 0, 2, 0, 0), -12);
        due("shift", () -> p.shift(1, 0, 0, 0, 0), -11);
        due("item", () -> p.item(0, 0, 1), -11);
        unchanged("a bad number", p, before);
        CHECK.due("odds are as they were", p.odds(1, 0), 4);
    }

    private static void questions() {
        IceBears p = Check.richPond();
        String before = Check.state(p);
        for (int cell = 0; cell < 16; cell++) {
            p.of(cell, 4);
            p.of(cell, 5);
            p.reach(cell);
            p.taken(cell, 3);
        }
        for (int k = 1; k < 10; k++) p.when(k);
        for (int what = 0; what < 3; what++) {
            p.thin(99, what);
            p.sweep(99, what);
            p.board(240, 0, what);
        }
        p.lamp(99);
        p.rope();
        p.fall();
        p.blows(3);
        p.sure(96, 0);
        p.likely();
        p.image();
        unchanged("a question, or an image", p, before);
        CHECK.due("odds are as they were", p.odds(1, 0), 4);
    }

    public static void main(String[] args) {
        refusals();
        badNumbers();
        questions();
        CHECK.end();
    }
}
