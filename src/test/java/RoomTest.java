import com.sun.management.ThreadMXBean;
import java.lang.management.ManagementFactory;
import java.util.function.Consumer;

/**
 * All calls of one run live in one room of some 600,000 objects: the dearest calls, 509 of each on one object, make next
 * to nothing, and each of them ends.
 */
public final class RoomTest {
    private static final int CALLS = 509;
    private static final long MOST_BYTES_A_CALL = 128;
    private static final long MOST_BYTES_A_NEW_OBJECT = 8192;
    private static final ThreadMXBean threads = (ThreadMXBean) ManagementFactory.getThreadMXBean();
    private static final Due due = new Due();

    public static void main(String[] args) {
        small("bits", x -> x.bits(0, 64));
        small("below", x -> x.below(0, (1L << 62) + 1));
        small("hits", x -> x.hits(0, 1, 3, 1000));
        small("misses", x -> x.misses(0, 1, Integer.MAX_VALUE, 1000));
        small("mask", x -> x.mask(0, 1, 3, 64));
        small("normal", x -> x.normal(0));
        small("permutation", x -> x.permutation(0, 200));
        small("subset", x -> x.subset(0, 201, 200));
        small("choose", x -> x.choose(0));
        small("word", x -> x.word(0, 0, Long.MAX_VALUE));
        small("secret", x -> x.secret(0, 0, (1 << 28) + 1, 5));
        small("back", x -> x.back(0, 0, (1 << 28) + 1, 5));
        newObjects();
        due.end();
    }

    private static long made() {
        return threads.getThreadAllocatedBytes(Thread.currentThread().getId());
    }

    private static void small(String call, Consumer<DrawStreams> asked) {
        DrawStreams x = new DrawStreams();
        x.key(1);
        x.drawer(0, 0);
        x.weight(31, 3);
        asked.accept(x);
        long before = made();
        for (int i = 0; i < CALLS - 1; i++) {
            asked.accept(x);
        }
        long bytes = made() - before;
        due.isTrue(call + ": bytes of all calls " + bytes, bytes <= CALLS * MOST_BYTES_A_CALL);
    }

    private static void newObjects() {
        new DrawStreams();
        long before = made();
        DrawStreams x = new DrawStreams();
        for (int i = 0; i < 16; i++) {
            x.key(i);
            x.drawer(0, i);
        }
        long bytes = made() - before;
        due.isTrue("an object with all keys and drawers: bytes " + bytes, bytes <= MOST_BYTES_A_NEW_OBJECT);
    }
}
