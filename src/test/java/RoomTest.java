import com.sun.management.ThreadMXBean;
import java.lang.management.ManagementFactory;

/** An object and its 512 dearest calls stay far below the room that all calls of a run share. */
public final class RoomTest {
    // 7.3 million elements are some 29 million bytes; one object's calls shall take a small part of them.
    private static final long MOST_BYTES = 400_000;

    private RoomTest() {
    }

    private static final ThreadMXBean THREADS = (ThreadMXBean) ManagementFactory.getThreadMXBean();

    private static long made() {
        return THREADS.getThreadAllocatedBytes(Thread.currentThread().getId());
    }

    private static void fill(PoolTowels x, int guests) {
        Feeding.pool(x, "chair 9 1;chair 3 4;chair 5 5;" + "guest 9 11 20 2;".repeat(guests) + "goes 3;off 2;hire 1;");
        for (int g = 0; g < guests; g++) {
            Feeding.habit(x, g, "if got = 0 then (mine * 5 + first) % 19 else least[mine + 1, last] - off + lain % 3");
        }
    }

    private static int dear(PoolTowels x) {
        int sum = 0;
        for (int i = 0; i < 25; i++) {
            x.wakes(0, i % 24);
            sum += x.round(1) + x.out(1) + x.had(1, 200) + x.fits(0) + x.summer(i, 60, 0) + x.lucky(0, i, 40);
            sum += x.given() + x.more(3, 3) + x.just(0) + x.off(0) + x.sums(0) + x.lot(i, 0) + x.net(0, 5);
            sum += x.image() + x.restore() + x.undo();
        }
        return sum;
    }

    public static void main(String[] args) {
        long most = 0;
        for (int turn = 0; turn < 3; turn++) {
            long before = made();
            PoolTowels x = new PoolTowels();
            fill(x, 4);
            for (int n = 2; n <= 8; n++) {
                x.still(n, 0);
            }
            fill(x, 8);
            dear(x);
            most = made() - before;
        }
        System.out.println("an object and its calls took " + most + " bytes");
        Checks.same("the room is small", "true", Boolean.toString(most < MOST_BYTES));
        Checks.end();
    }
}
