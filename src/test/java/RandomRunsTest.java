import java.util.Random;
import java.util.function.Function;

/** All promises: long runs of calls of all kinds, right and wrong, each answered as the model answers it. */
public final class RandomRunsTest {
    private static final int RUNS = 1500;
    private static final int CALLS = 512;
    private static final long[] EDGES = {
        -2, -1, 0, 1, 2, 3, 4, 11, 12, 13, 15, 16, 17, 31, 32, 33, 63, 64, 65, 199, 200, 201, 999, 1000, 1001,
        1000000, 1000001, 1073741823, 1073741824, 1073741825, Integer.MAX_VALUE, Integer.MIN_VALUE, 1L << 31,
        1L << 32, (1L << 32) - 1, (1L << 32) + 1, 1000000000000L, 1000000000001L, (1L << 61) - 1, 1L << 61,
        (1L << 61) + 1, (1L << 62) + 1, Long.MAX_VALUE, Long.MIN_VALUE};

    private static final Due due = new Due();
    private final Random random;
    private final DrawStreams x = new DrawStreams();
    private final Model m = new Model();
    private final String name;

    private RandomRunsTest(int run) {
        random = new Random(run);
        name = "run " + run + ", call ";
    }

    public static void main(String[] args) {
        for (int run = 0; run < RUNS; run++) {
            new RandomRunsTest(run).go();
        }
        due.end();
    }

    private void go() {
        if (random.nextInt(10) != 0) {
            both("key", s -> x.key(s), s -> m.key(s), random.nextLong());
            both("drawer", s -> x.drawer(0, 0), s -> m.drawer(0, 0), 0);
        }
        for (int call = 2; call < CALLS; call++) {
            if (random.nextInt(2) == 0) {
                drawCall(call);
            } else {
                otherCall(call);
            }
        }
    }

    private void both(String call, Function<Long, Object> asked, Function<Long, Object> due, long with) {
        RandomRunsTest.due.isText(name + call, Due.told(() -> asked.apply(with)), Due.told(() -> due.apply(with)));
    }

    private boolean wild() {
        return random.nextInt(20) == 0;
    }

    private long edge() {
        return random.nextInt(3) == 0 ? random.nextLong() : EDGES[random.nextInt(EDGES.length)];
    }

    private long upTo(long most) {
        return wild() ? edge() : random.nextInt(8) == 0 ? most : Math.floorMod(random.nextLong(), most + 1);
    }

    private int intUpTo(int most) {
        return (int) upTo(most);
    }

    private void drawCall(int call) {
        int d = intUpTo(3);
        int down = random.nextBoolean() ? intUpTo(10) : intUpTo(Integer.MAX_VALUE);
        int up = intUpTo(Math.max(down, 0));
        int few = intUpTo(20);
        int n = intUpTo(200);
        long span = 1L << random.nextInt(63);
        switch (random.nextInt(13)) {
            case 0 -> both(call + " bits", s -> x.bits(d, (int) (long) s), s -> m.bits(d, (int) (long) s), upTo(64));
            case 1 -> both(call + " below", s -> x.below(d, s), s -> m.below(d, s), upTo(span));
            case 2 -> both(call + " real", s -> x.real(d), s -> m.real(d), 0);
            case 3 -> both(call + " single", s -> x.single(d), s -> m.single(d), 0);
            case 4 -> both(call + " coin", s -> x.coin(d, up, down), s -> m.coin(d, up, down), 0);
            case 5 -> both(call + " misses", s -> x.misses(d, up, down, few), s -> m.misses(d, up, down, few), 0);
            case 6 -> both(call + " hits", s -> x.hits(d, up, down, few), s -> m.hits(d, up, down, few), 0);
            case 7 -> both(call + " mask", s -> x.mask(d, up, down, few), s -> m.mask(d, up, down, few), 0);
            case 8 -> both(call + " normal", s -> x.normal(d), s -> m.normal(d), 0);
            case 9 -> both(call + " permutation", s -> x.permutation(d, n), s -> m.permutation(d, n), 0);
            case 10 -> subset(call, d);
            case 11 -> both(call + " choose", s -> x.choose(d), s -> m.choose(d), 0);
            default -> sureCoins(call, d);
        }
    }

    private void subset(int call, int d) {
        int n = random.nextBoolean() ? intUpTo(40) : intUpTo(1000000);
        int most = intUpTo(Math.max(0, Math.min(n, 200)));
        both(call + " subset", s -> x.subset(d, n, most), s -> m.subset(d, n, most), 0);
    }

    private void sureCoins(int call, int d) {
        int down = intUpTo(Integer.MAX_VALUE);
        int up = random.nextBoolean() ? 0 : down;
        int n = intUpTo(1000);
        both(call + " hits", s -> x.hits(d, up, down, n), s -> m.hits(d, up, down, n), 0);
    }

    private void otherCall(int call) {
        int key = intUpTo(3);
        int d = intUpTo(3);
        int e = intUpTo(11);
        int stream = random.nextBoolean() ? intUpTo(1) : intUpTo(Integer.MAX_VALUE);
        int n = intUpTo(40);
        int i = intUpTo(Math.max(0, n - 1));
        switch (random.nextInt(13)) {
            case 0 -> both(call + " key", s -> x.key(s), s -> m.key(s), random.nextBoolean() ? 7 : edge());
            case 1 -> both(call + " split", s -> x.split(key, n), s -> m.split(key, n), 0);
            case 2 -> both(call + " bitsOf", s -> x.bitsOf(e), s -> m.bitsOf(e), 0);
            case 3 -> both(call + " word", s -> x.word(key, stream, s), s -> m.word(key, stream, s), upTo(Long.MAX_VALUE - 1));
            case 4 -> both(call + " drawer", s -> x.drawer(key, stream), s -> m.drawer(key, stream), 0);
            case 5 -> both(call + " place", s -> x.place(d, s), s -> m.place(d, s), upTo(random.nextBoolean() ? 3 : 1L << 61));
            case 6 -> both(call + " told", s -> x.told(d, (int) (long) s), s -> m.told(d, (int) (long) s), upTo(3));
            case 7 -> both(call + " same", s -> x.same(d, e), s -> m.same(d, e), 0);
            case 8 -> both(call + " at", s -> x.at((int) (long) s), s -> m.at((int) (long) s), upTo(m.count(2)));
            case 9 -> both(call + " weight", s -> x.weight(e, s), s -> m.weight(e, s), upTo(1000000000000L));
            case 10 -> greatOrder(call, key, stream);
            case 11 -> back(call, key, stream, i);
            default -> both(call + " count", s -> x.count((int) (long) s), s -> m.count((int) (long) s), upTo(2));
        }
    }

    /** One call of the two, so that a run stays within its 512: there, or back from where the model is. */
    private void greatOrder(int call, int key, int stream) {
        int n = random.nextBoolean() ? intUpTo(40) : intUpTo(1 << 30);
        int i = intUpTo(Math.max(0, n - 1));
        if (random.nextBoolean()) {
            both(call + " secret", s -> x.secret(key, stream, n, i), s -> m.secret(key, stream, n, i), 0);
        } else {
            int place = m.secret(key, stream, n, i);
            both(call + " back", s -> x.back(key, stream, n, place), s -> place < 0 ? -1 : i, 0);
        }
    }

    /** The model looks a place up among all, so that n stays small here. */
    private void back(int call, int key, int stream, int place) {
        int n = random.nextInt(43) - 1;
        both(call + " back", s -> x.back(key, stream, n, place), s -> m.back(key, stream, n, place), 0);
    }
}
