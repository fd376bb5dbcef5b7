import com.sun.management.ThreadMXBean;
import java.lang.management.ManagementFactory;

/** All calls of a run share one room: calls make next to nothing, whatever they are asked. */
final class RoomTest {
    private static final Check CHECK = new Check("RoomTest");
    private static final ThreadMXBean ROOM = (ThreadMXBean) ManagementFactory.getThreadMXBean();
    private static final int BYTES_A_CALL = 64;
    private static final int BYTES_A_POND = 16_000;

    private static long used() {
        return ROOM.getThreadAllocatedBytes(Thread.currentThread().getId());
    }

    private static void dearest(IceBears pond) {
        for (int i = 0; i < 10; i++) {
            pond.when(9);
            pond.thin(99, 2);
            pond.reach(15);
            pond.sweep(99, 1);
            pond.lamp(99);
            pond.board(240, 500, 2);
            pond.rope();
            pond.off(0);
            pond.likely();
            pond.sure(96, 0);
            pond.image();
            pond.undo();
            pond.act(6, 2, i);
            pond.tape(i % 6, 3, 60);
            pond.judge(i % 6, 0);
            pond.shift(0, 0, 0, 9, 40);
            pond.hole(i, 239, 1499);
            pond.fall();
            pond.told(i, 0);
            Check.write(pond, "frost 1 ((((h=1))))|!h=2");
            pond.winter();
            pond.go(240);
        }
    }

    public static void main(String[] args) {
        dearest(Check.richPond());
        long start = used();
        IceBears pond = new IceBears();
        long made = used();
        CHECK.due("a pond is small: " + (made - start), made - start < BYTES_A_POND ? 1 : 0, 1);
        for (int k = 0; k < 4; k++) pond.odds(k, 5);
        start = used();
        dearest(pond);
        long calls = 10 * 28;
        long spent = used() - start;
        CHECK.due("calls make little: " + spent, spent < calls * BYTES_A_CALL ? 1 : 0, 1);
        CHECK.end();
    }
}
