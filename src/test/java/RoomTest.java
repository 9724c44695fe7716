import com.sun.management.ThreadMXBean;
import java.lang.management.ManagementFactory;

/** A run has to live in a small room: what dear runs of 512 calls make is measured, in bytes. */
public final class RoomTest {
    private static final long MOST_BYTES = 1_000_000;
    private static final ThreadMXBean METER = (ThreadMXBean) ManagementFactory.getThreadMXBean();

    private interface Step {
        void run(Hammerline x, int call);
    }

    public static void main(String[] args) {
        for (int round = 0; round < 2; round++) {
            measure("300 acts", (x, call) -> x.weather(call % 4, 365, call % 99), 300);
            measure("acts taken back and done anew", (x, call) -> {
                if (call < 300 || call % 2 == 1) {
                    x.tune(call % 4, call % 24, 1);
                } else {
                    x.back();
                }
            }, 400);
            measure("acts and back at once", (x, call) -> {
                if (call % 2 == 0) {
                    x.adjust(call % 4, call % 24, 0, 1);
                } else {
                    x.back();
                }
            }, 400);
            measure("questions", (x, call) -> x.quietest(0, 0, 1, 1 + call % 23, 1), 400);
            measure("figures", (x, call) -> {
                x.checksum(0);
                x.meanTone(0);
                x.isSound();
                x.faults(0);
            }, 100);
        }
        Checks.end("RoomTest");
    }

    private static void measure(String what, Step step, int calls) {
        long before = METER.getCurrentThreadAllocatedBytes();
        Hammerline x = new Hammerline();
        for (int piano = 0; piano < 4; piano++) {
            x.piano(0, 24, 250000);
        }
        for (int i = 0; i < 96; i++) {
            x.string(i % 4, i / 4, 500, 100, 1);
        }
        for (int call = 0; call < calls && x.acts() < 300; call++) {
            step.run(x, call);
        }
        long made = METER.getCurrentThreadAllocatedBytes() - before;
        Checks.same(what + " made " + made + " bytes, not too many", true, made < MOST_BYTES);
    }
}
