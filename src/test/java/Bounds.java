import java.util.function.Supplier;

/** What the tests of bounds share: what is refused, or asked, changes nothing that a later call shows. */
final class Bounds {
    /** A call on a pond. */
    interface Call {
        long on(IceBears pond);
    }

    /** A call on a pond with a number that has its bounds. */
    interface Numbered {
        long on(IceBears pond, int n);
    }

    private final Check check;

    Bounds(String name) {
        check = new Check(name);
    }

    void due(String call, long got, long want) {
        check.due(call, got, want);
    }

    void holds(String what, boolean is) {
        check.due(what, is ? 1 : 0, 1);
    }

    /** The call answers so, and the pond shows all that it would without that call. */
    void unchanged(String name, Supplier<IceBears> ponds, Call call, long want) {
        IceBears pond = ponds.get();
        check.due(name, call.on(pond), want);
        holds(name + ": nothing has changed", Ponds.shown(pond).equals(Ponds.shown(ponds.get())));
    }

    void refused(String name, Call call, long want) {
        unchanged(name, Ponds::rich, call, want);
    }

    /** One below the least, one above the most and the ends of all numbers are refused. */
    void outside(String name, Numbered call, int least, int most, long want) {
        int[] numbers = {least - 1, most + 1, Integer.MIN_VALUE, Integer.MAX_VALUE};
        for (int n : numbers) refused(name + " " + n, pond -> call.on(pond, n), want);
    }

    void end() {
        check.end();
    }
}
