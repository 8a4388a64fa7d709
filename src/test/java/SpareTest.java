import java.lang.management.ManagementFactory;

/** How much is made: all calls of a run live in one room, so 512 calls of any kind, and 512 objects, must be small. */
public final class SpareTest {
    private static final com.sun.management.ThreadMXBean COUNTER =
            (com.sun.management.ThreadMXBean) ManagementFactory.getThreadMXBean();
    private static final byte[] POST = Check.bytes(StateTest.POST);

    public static void main(String[] args) {
        // Once ahead, so that no class is loaded while it is counted.
        objects();
        calls();
        long made = objects();
        System.out.println("512 objects make " + made + " bytes");
        Check.is("512 objects make at most 16 MB", made <= 16L << 20, true);
        made = calls();
        System.out.println("512 of each dear call make " + made + " bytes");
        Check.is("512 of each dear call make at most 4 MB", made <= 4L << 20, true);
        Check.end("SpareTest");
    }

    private static long objects() {
        long before = COUNTER.getCurrentThreadAllocatedBytes();
        int sum = 0;
        for (int k = 0; k < 512; k++) {
            sum += new WonderParcels().count(5);
        }
        Check.is("all new", sum, 5 * 512);
        return COUNTER.getCurrentThreadAllocatedBytes() - before;
    }

    private static long calls() {
        byte[] sentence = Check.bytes("not opened and (is lamp or size < 9)");
        byte[] book = Check.bytes("day 3;ann joins bag;");
        byte[] four = {0, 3, 0, 0};
        WonderParcels x = new WonderParcels();
        long before = COUNTER.getCurrentThreadAllocatedBytes();
        for (int k = 0; k < 512; k++) {
            Check.tape(x, POST);
            x.post();
            Check.tape(x, sentence);
            x.sentence();
            x.said(-1);
            Check.tape(x, book);
            x.book(1);
            Check.tape(x, four);
            x.sat();
            x.sitters(0, 0, 9);
            x.odds(0, 0, 3, k);
            x.drawn(3, k);
            x.rooms();
            x.rest();
            x.let(2);
            x.when(0, 0);
            x.tag(2);
            x.undo();
            x.image(0);
            x.restore(0);
            x.days(2);
        }
        return COUNTER.getCurrentThreadAllocatedBytes() - before;
    }
}
