import com.sun.management.ThreadMXBean;
import java.lang.management.ManagementFactory;
import java.util.function.Consumer;

/**
 * The room of a run: all that its calls make stays there. A loft makes what it needs as it is made,
 * so that no call but herb() and order() makes anything.
 */
public final class RoomTest {
    // A full loft has taken 52 of its 512 calls, and some of the rounds below make three.
    private static final int ROUNDS = 150;
    // The least that a round which makes one object or array makes.
    private static final long BYTES_OF_ONE = 16;
    // The machine makes some things of its own now and then.
    private static final int TRIES = 5;

    private static final ThreadMXBean THREADS = (ThreadMXBean) ManagementFactory.getThreadMXBean();

    public static void main(String[] args) {
        makesNothing("hang() and take()", x -> {
            x.take(4, 7);
            x.hang(4, 7, 5, 90);
        });
        makesNothing("move()", x -> {
            x.take(4, 7);
            x.move(0, 0, 4, 7);
            x.hang(0, 0, 0, 10);
        });
        makesNothing("turn()", x -> x.turn(4));
        makesNothing("setWindow()", x -> x.setWindow(3));
        makesNothing("fill()", x -> x.fill());
        makesNothing("pass()", x -> x.pass(2, 1));
        makesNothing("told()", x -> x.told(4, 7, 7));
        makesNothing("about()", x -> x.about(5, 4));
        makesNothing("asked()", x -> x.asked(5, 4));
        makesNothing("count()", x -> x.count(8));
        makesNothing("until()", x -> x.until(0, 0, 0, 9));
        makesNothing("foresee()", x -> x.foresee(60, 9, 3));
        makesNothing("advise()", x -> x.advise(30, 9));
        makesNothing("mean()", x -> x.mean());
        makesNothing("digest()", x -> x.digest());
        Check.end();
    }

    private static void makesNothing(String name, Consumer<HerbLoft> call) {
        long least = Long.MAX_VALUE;
        for (int i = 0; i < TRIES; i++) {
            least = Math.min(least, bytesMade(call));
        }
        if (least >= ROUNDS * BYTES_OF_ONE) {
            Check.note(name + " made " + least + " bytes in " + ROUNDS + " rounds");
        }
    }

    private static long bytesMade(Consumer<HerbLoft> call) {
        HerbLoft x = Boundary.FULL.get();
        call.accept(x);
        long before = bytesSoFar();
        for (int i = 0; i < ROUNDS; i++) {
            call.accept(x);
        }
        return bytesSoFar() - before;
    }

    private static long bytesSoFar() {
        return THREADS.getThreadAllocatedBytes(Thread.currentThread().getId());
    }
}
