import com.sun.management.ThreadMXBean;
import java.lang.management.ManagementFactory;

/**
 * All calls of one run live in one room (the page before LANGUAGE.md, and its rule 12): what a
 * house needs is made with it, and a call makes at most the one object that it keeps.
 */
public final class RoomTest {
    private static final long MOST_BYTES_OF_A_HOUSE = 16 * 1024;
    private static final long MOST_BYTES_OF_ALL_CALLS = 16 * 1024;

    public static void main(String[] args) {
        ThreadMXBean room = (ThreadMXBean) ManagementFactory.getThreadMXBean();
        use(new Pivotforge()); // loads the classes, whose own bytes are not to count
        long taken = room.getCurrentThreadAllocatedBytes();
        Pivotforge x = new Pivotforge();
        long made = room.getCurrentThreadAllocatedBytes();
        use(x);
        long used = room.getCurrentThreadAllocatedBytes();
        if (made - taken > MOST_BYTES_OF_A_HOUSE) {
            Check.fail("a new house takes " + (made - taken) + " bytes");
        }
        if (used - made > MOST_BYTES_OF_ALL_CALLS) {
            Check.fail("all calls take " + (used - made) + " bytes");
        }
        Check.end();
    }

    /** As many sales and embargoes as there may be, and the dearest calls for the rest of 512. */
    private static void use(Pivotforge x) {
        for (int i = 0; i < 120; i++) {
            x.sale(i % 3, i % 4, i % 5, i);
        }
        for (int i = 0; i < 40; i++) {
            x.embargo(0, i % 5, i % 6, 3, 100);
        }
        for (int i = 0; i < 30; i++) {
            x.mark(i / 6, i % 6);
        }
        for (int i = 0; i < 80; i++) {
            x.build(0, i % 4);
            x.isKnownBySolving(i % 5, i % 6);
            x.cover();
            x.pass(1);
        }
    }
}
