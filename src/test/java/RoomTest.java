import java.lang.management.ManagementFactory;

/** What a run makes stays small: all calls of a run live in one room. */
public final class RoomTest {
    private static final com.sun.management.ThreadMXBean THREADS =
        (com.sun.management.ThreadMXBean) ManagementFactory.getThreadMXBean();

    public static void main(String[] args) {
        // the first object loads its classes, too
        new ListenWells().gangs(0, 0);
        measure();
        Check.end("RoomTest");
    }

    private static long made() {
        return THREADS.getThreadAllocatedBytes(Thread.currentThread().getId());
    }

    private static void measure() {
        long start = made();
        ListenWells x = new ListenWells();
        long object = made() - start;
        Check.due("bytes of a new object " + object, object < 40000 ? 1 : 0, 1);
        String law = "says 1" + "+1".repeat(40) + " if 1=1 and 2=2 and 3=3 and 4=4";
        Check.law(x, law);
        x.force(0);
        for (int k = 0; k < 5; k++) {
            x.sink(k);
            x.listener(k, k);
            x.noise(k, k);
            x.put(20 + k, 0, 3);
        }
        Check.tape(x, "lie 0 in done % 8 times 20");
        start = made();
        for (int n = 0; n < 25; n++) {
            x.gangs(0x1f00, 3);
            x.down(0, 30, 2);
            x.time(0, 30, 200);
            x.quiet(31, 20, 1);
            x.hidden();
            x.next(1);
            x.tongue(1);
            x.vein(20, 1);
            x.compare(0);
            x.seasons(n, 60);
            x.hears(0);
            x.image(0);
            x.back(0);
            x.orders();
            x.dig(0, 1);
            x.undo();
        }
        long calls = made() - start;
        Check.due("bytes of 400 calls " + calls, calls < 1000 ? 1 : 0, 1);
        Check.tape(x, law);
        start = made();
        x.law();
        long aLaw = made() - start;
        Check.due("bytes of a law " + aLaw, aLaw < 2000 ? 1 : 0, 1);
    }
}
