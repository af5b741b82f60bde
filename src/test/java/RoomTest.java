import com.sun.management.ThreadMXBean;
import java.lang.management.ManagementFactory;

/** All calls of a run live in one room, so a call that only asks must make nothing. */
public final class RoomTest {
    private static final long OBJECT_BYTES = 8192;

    public static void main(String[] args) {
        Checks checks = new Checks();
        ThreadMXBean threads = (ThreadMXBean) ManagementFactory.getThreadMXBean();
        ask(full(), 5);
        long start = threads.getCurrentThreadAllocatedBytes();
        CapitalReckoner x = full();
        long made = threads.getCurrentThreadAllocatedBytes();
        ask(x, 20);
        long asked = threads.getCurrentThreadAllocatedBytes();
        checks.due("a full object stays under " + OBJECT_BYTES + " bytes", made - start < OBJECT_BYTES, true);
        // Above 0 only by what the machine itself may make meanwhile.
        checks.due("280 questions make " + (asked - made) + " bytes", asked - made < 280 * 8, true);
        checks.end("RoomTest");
    }

    private static CapitalReckoner full() {
        CapitalReckoner x = new CapitalReckoner();
        for (int e = 0; e < 8; e++) {
            x.addExposure(e % 4, e / 2, 100 * e, 10 * e, e % 3, 10 + e);
        }
        for (int p = 0; p < 5; p++) {
            x.addPiece(90 + p, p, p % 3, 8 + 2 * p, 255);
        }
        return x;
    }

    private static int ask(CapitalReckoner x, int times) {
        int sum = 0;
        for (int time = 0; time < times; time++) {
            sum += x.exposures() + x.amount(1) + x.pieces() + x.value(1, 2) + x.givenTo(3) + x.bare(4) + x.weighted(5);
            sum += x.whole() + x.wholeByTrying() + x.worth(2) + x.plain() + x.required() + x.partyBare(1) + x.tooLarge();
        }
        return sum;
    }
}
