import java.lang.management.ManagementFactory;
import java.util.function.Consumer;

/** All calls of a run live in one room of 7.3 million fields and elements: the dearest runs of 512 calls fit in it. */
public final class RoomTest {
    private static final Check check = new Check();
    private static final long MOST_BYTES = 7_300_000L * 8;
    private static final com.sun.management.ThreadMXBean THREADS =
            (com.sun.management.ThreadMXBean) ManagementFactory.getThreadMXBean();

    public static void main(String[] args) {
        fits("three stages", x -> x.run(1, 3));
        fits("six rounds", x -> x.prices(6));
        fits("panels", x -> x.panel(100, 99));
        fits("rows", x -> x.salvage(FaultRips.NONE, 0));
        fits("refused calls", x -> Check.answer(() -> x.at(1000, 0)));
        check.end("RoomTest");
    }

    private static FaultRips fullBoard() {
        FaultRips x = new FaultRips(10, 24, 1);
        for (int i = 0; i < 8; i++) {
            x.piece(1 + i % 2, 1, 24, 100000);
            x.need(i, 1);
        }
        for (int i = 0; i < 20; i++) {
            x.fault(i % 2, i % 8, i, i % 10, 1, 1);
        }
        x.run(0, 3);
        return x;
    }

    private static void fits(String what, Consumer<FaultRips> call) {
        long thread = Thread.currentThread().getId();
        long before = THREADS.getThreadAllocatedBytes(thread);
        FaultRips x = fullBoard();
        for (int calls = 37; calls < 512; calls++) {
            call.accept(x);
        }
        long used = THREADS.getThreadAllocatedBytes(thread) - before;
        check.yes(what + " used " + used + " bytes", used < MOST_BYTES);
    }
}
