import com.sun.management.ThreadMXBean;
import java.lang.management.ManagementFactory;

/** All calls of a run live in one room, so a call that only asks must make nothing. */
public final class RoomTest {
    private static final long OBJECT_BYTES = 8192;

    public static void main(String[] args) {
        Checks checks = new Checks();
        ThreadMXBean threads = (ThreadMXBean) ManagementFactory.getThreadMXBean();
        ask(Samples.full(), 5);
        long start = threads.getCurrentThreadAllocatedBytes();
        CapitalReckoner x = Samples.full();
        long made = threads.getCurrentThreadAllocatedBytes();
        ask(x, 20);
        long asked = threads.getCurrentThreadAllocatedBytes();
        checks.due("a full object stays under " + OBJECT_BYTES + " bytes", made - start < OBJECT_BYTES, true);
        // Above 0 only by what the machine itself may make meanwhile.
        checks.due("280 questions make " + (asked - made) + " bytes", asked - made < 280 * 8, true);
        checks.end("RoomTest");
    }

    private static int ask(CapitalReckoner x, int times) {
        int sum = 0;
        for (int time = 0; time < times; time++) {
            sum += x.exposures() + x.amount(1) + x.pieces() + x.value(1, 2) + x.givenTo(3) + x.bare(4) + x.weighted(5);
            sum += x.whole() + x.wholeByTrying() + x.worth(2) + x.plain() + x.required() + x.partyBare(1) + x.tooLarge();
        }
        return sum;
    }
}
