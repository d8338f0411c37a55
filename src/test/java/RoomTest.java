import java.lang.management.ManagementFactory;

/**
 * A run of calls lives in one room: here the dearest calls, 512 of each, are
 * made on one object, and what the machine gave out for them is measured.
 */
public final class RoomTest {
    /** Bytes: far below the room's 7.3 million elements, were each but one byte. */
    private static final long MOST_OF_A_RUN = 200_000;

    private static final com.sun.management.ThreadMXBean BEAN =
            (com.sun.management.ThreadMXBean) ManagementFactory.getThreadMXBean();

    private static long given() {
        return BEAN.getThreadAllocatedBytes(Thread.currentThread().getId());
    }

    private static long dearRun() {
        long sum = 0;
        WaterShoulders x = Check.onStair("53/52/53/55");
        x.boat(2, 4, 0);
        x.boat(4, 0, 2);
        x.boat(3, 0, 1);
        x.boat(3, 0, 1);
        x.boat(4, 0, 3);
        x.mud(1, 0);
        for (int i = 0; i < 7; i++) {
            x.line(0);
        }
        for (int i = 0; i < 512; i++) {
            sum += x.fewest(0, 1, i % 2) + x.poured() + x.sure(1) + x.digest();
            sum += x.weeks(60, i, 0) + x.chance(1, 9, 3, 2, 0) + x.image() + x.restore();
        }
        return sum;
    }

    private static long newStairs() {
        long sum = 0;
        WaterShoulders x = new WaterShoulders();
        for (int i = 0; i < 512; i++) {
            sum += x.letters(Check.packed("10/10", 0)) + x.stair() + x.boat(3, 0, 1);
            sum += x.mud(1, 0) + x.line(0);
        }
        return sum;
    }

    public static void main(String[] args) {
        Check check = new Check();
        // once ahead, for what the machine makes with first use
        dearRun();
        newStairs();
        long before = given();
        dearRun();
        long dear = given() - before;
        newStairs();
        long stairs = given() - before - dear;
        check.holds("the dearest calls took " + dear + " bytes", dear < MOST_OF_A_RUN);
        check.holds("new stairs and boats took " + stairs + " bytes", stairs < MOST_OF_A_RUN);
        check.end("RoomTest");
    }
}
