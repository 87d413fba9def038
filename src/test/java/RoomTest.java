import java.lang.management.ManagementFactory;

/** All calls of a run live in one room: what a call makes is counted, and the calls here make nothing. */
public final class RoomTest {
    private static final int CALLS = 500;
    /** What the counting itself may make. */
    private static final long SLACK = 4096;
    private static final long A_NEW_OBJECT = 20000;

    public static void main(String[] args) {
        Due due = new Due("RoomTest");
        // the first one counts what loading the classes makes, too
        made(-1);
        due.holds("a new object is small, but made " + made(-1) + " bytes", made(-1) <= A_NEW_OBJECT);
        for (int which = 0; which < 16; which++) {
            long bytes = made(which) - made(-1);
            due.holds("calls of sort " + which + " make nothing, but made " + bytes + " bytes", bytes <= SLACK);
        }
        due.end();
    }

    private static long made(int which) {
        com.sun.management.ThreadMXBean threads =
            (com.sun.management.ThreadMXBean) ManagementFactory.getThreadMXBean();
        long before = threads.getThreadAllocatedBytes(Thread.currentThread().getId());
        RopeBorder x = new RopeBorder();
        if (which >= 0) {
            x.turner(99);
            for (int i = 0; i < 8; i++) {
                x.crosser(10 * (i % 7) + i, i, i % 4);
            }
            x.go(255);
            x.sheet(0, 8, 4);
            for (int i = 0; i < CALLS; i++) {
                call(x, which, i);
            }
        }
        return threads.getThreadAllocatedBytes(Thread.currentThread().getId()) - before;
    }

    private static int call(RopeBorder x, int which, int i) {
        switch (which) {
            case 0: return x.beats(1 + i % 5);
            case 1: return x.loose(1 + i % 5);
            case 2: return x.then(200, i % 8, 0);
            case 3: return x.over(i % 8);
            case 4: return x.begin(i % 8);
            case 5: return x.rhymes(20, 1, 2, 0);
            case 6: return x.most(10);
            case 7: return x.stands();
            case 8: return x.parts(999);
            case 9: return x.who(0, 50);
            case 10: return x.odds(i % 8, 50, 1);
            case 11: return x.voice(i % 8, i % 4, i);
            case 12: return x.sheet(i % 4, 32, 40) + x.put(i % 4, 0, 1) + x.move(i % 4, 0, i % 4, 1, 39);
            case 13: return x.image() + x.restore();
            case 14: return x.tell(0) + x.check();
            default: return x.feed(0x282b2831L, 1 + i % 4) + x.text(i % 2) + x.law(0, 1, 2, 3);
        }
    }
}
