import java.math.BigInteger;
import java.util.ArrayList;
import java.util.List;
import java.util.TreeSet;

/** The document's words taken down as plainly as can be, without a thought of speed or room. */
final class Model {
    private static final BigInteger TWO_32 = BigInteger.ONE.shiftLeft(32);

    private final List<Long> keys = new ArrayList<>();
    private final List<Going> drawers = new ArrayList<>();
    private List<Integer> row = new ArrayList<>();
    private final long[] weights = new long[32];

    private static final class Going {
        int key;
        long bits;
        int stream;
        long place;
        long rejected;
    }

    /** Words 0 to 3 as ints: their unsigned values count. */
    static int[] four(long key, int stream, int sort, long b) {
        int[] x = {(int) b, (int) (b >>> 32), stream, sort};
        int k0 = (int) key;
        int k1 = (int) (key >>> 32);
        for (int t = 0; t < 10; t++) {
            long p = 3528531795L * Integer.toUnsignedLong(x[0]);
            long q = 3449720151L * Integer.toUnsignedLong(x[2]);
            x = new int[] {(int) (q >>> 32) ^ x[1] ^ k0, (int) q, (int) (p >>> 32) ^ x[3] ^ k1, (int) p};
            k0 += 0x9E3779B9;
            k1 += 0xBB67AE85;
        }
        return x;
    }

    private static long wordAt(long key, int stream, long i) {
        return Integer.toUnsignedLong(four(key, stream, 0, i / 4)[(int) (i % 4)]);
    }

    private boolean noKey(int key) {
        return key < 0 || key >= keys.size();
    }

    private boolean noDrawer(int d) {
        return d < 0 || d >= drawers.size();
    }

    private static long take(Going g) {
        return wordAt(g.bits, g.stream, g.place++);
    }

    private static BigInteger takeBits(Going g, int n) {
        BigInteger all = BigInteger.ZERO;
        int had = 0;
        while (had < n) {
            all = all.multiply(TWO_32).add(BigInteger.valueOf(take(g)));
            had += 32;
        }
        return all.shiftRight(had - n);
    }

    private static long takeBelow(Going g, long span) {
        BigInteger of = BigInteger.valueOf(span);
        int n = of.subtract(BigInteger.ONE).bitLength();
        BigInteger v = takeBits(g, n);
        while (v.compareTo(of) >= 0) {
            g.rejected++;
            v = takeBits(g, n);
        }
        return v.longValueExact();
    }

    private static boolean flip(Going g, int up, int down) {
        if (up == 0 || up == down) {
            return up == down;
        }
        BigInteger r = BigInteger.valueOf(up);
        while (true) {
            BigInteger[] parts = r.multiply(TWO_32).divideAndRemainder(BigInteger.valueOf(down));
            r = parts[1];
            int side = BigInteger.valueOf(take(g)).compareTo(parts[0]);
            if (side != 0) {
                return side < 0;
            }
            if (r.signum() == 0) {
                return false;
            }
        }
    }

    private static long digit(Going g, List<Long> deviate, int j) {
        while (deviate.size() <= j) {
            deviate.add(take(g));
        }
        return deviate.get(j);
    }

    private static boolean less(Going g, List<Long> a, List<Long> b) {
        for (int j = 0; j < 4; j++) {
            long one = digit(g, a, j);
            long other = digit(g, b, j);
            if (one != other) {
                return one < other;
            }
        }
        return false;
    }

    private static boolean half(Going g) {
        List<Long> a = new ArrayList<>();
        if (digit(g, a, 0) >= 2147483648L) {
            return true;
        }
        while (true) {
            List<Long> b = new ArrayList<>();
            if (!less(g, b, a)) {
                return false;
            }
            a = new ArrayList<>();
            if (!less(g, a, b)) {
                return true;
            }
        }
    }

    private static long drawNormal(Going g) {
        again:
        while (true) {
            int k = 0;
            while (half(g)) {
                k++;
            }
            for (int i = 0; i < k * (k - 1); i++) {
                if (!half(g)) {
                    continue again;
                }
            }
            List<Long> x = new ArrayList<>();
            for (int i = 0; i < k + 1; i++) {
                List<Long> y = x;
                int n = 0;
                while (true) {
                    List<Long> z = new ArrayList<>();
                    if (!less(g, z, y)) {
                        break;
                    }
                    long f = takeBelow(g, 2 * k + 2);
                    if (f == 0 || f == 1 && !less(g, new ArrayList<>(), x)) {
                        break;
                    }
                    y = z;
                    n++;
                }
                if (n % 2 == 1) {
                    continue again;
                }
            }
            long size = k * 4294967296L + digit(g, x, 0);
            return takeBits(g, 1).signum() == 1 ? -size : size;
        }
    }

    private static int bitsOfPart(int n) {
        int m = 1;
        while (BigInteger.valueOf(4).pow(m).compareTo(BigInteger.valueOf(n)) < 0) {
            m++;
        }
        return m;
    }

    private static long walk(long key, int stream, int m, long v) {
        long left = v >> m;
        long right = v % (1L << m);
        for (int j = 0; j < 6; j++) {
            long mixed = Integer.toUnsignedLong(four(key, stream, 2, j * 4294967296L + right)[0]) % (1L << m);
            long next = left ^ mixed;
            left = right;
            right = next;
        }
        return left * (1L << m) + right;
    }

    int key(long k) {
        if (keys.size() == 16) {
            return -2;
        }
        keys.add(k);
        return keys.size() - 1;
    }

    int split(int key, int part) {
        if (noKey(key)) {
            return -1;
        }
        int[] x = four(keys.get(key), 0, 1, part);
        return key((long) x[0] * 4294967296L + Integer.toUnsignedLong(x[1]));
    }

    long bitsOf(int key) {
        return noKey(key) ? -1 : keys.get(key);
    }

    long word(int key, int stream, long i) {
        return noKey(key) || stream < 0 || i < 0 ? -1 : wordAt(keys.get(key), stream, i);
    }

    int drawer(int key, int stream) {
        if (noKey(key) || stream < 0) {
            return -1;
        }
        if (drawers.size() == 12) {
            return -2;
        }
        Going g = new Going();
        g.key = key;
        g.bits = keys.get(key);
        g.stream = stream;
        drawers.add(g);
        return drawers.size() - 1;
    }

    int place(int d, long place) {
        if (noDrawer(d) || place < 0 || place > 2305843009213693952L) {
            return -1;
        }
        drawers.get(d).place = place;
        return 1;
    }

    long told(int d, int what) {
        if (noDrawer(d) || what < 0 || what > 3) {
            return -1;
        }
        Going g = drawers.get(d);
        return new long[] {g.place, g.rejected, g.key, g.stream}[what];
    }

    boolean same(int d, int e) {
        if (noDrawer(d) || noDrawer(e)) {
            return false;
        }
        Going g = drawers.get(d);
        Going h = drawers.get(e);
        return g.bits == h.bits && g.stream == h.stream && g.place == h.place;
    }

    long bits(int d, int n) {
        return noDrawer(d) || n < 0 || n > 64 ? -1 : takeBits(drawers.get(d), n).longValue();
    }

    long below(int d, long span) {
        if (noDrawer(d) || span < 0) {
            return -1;
        }
        if (span == 0) {
            throw new ArithmeticException();
        }
        return takeBelow(drawers.get(d), span);
    }

    double real(int d) {
        return noDrawer(d) ? -1.0 : takeBits(drawers.get(d), 53).longValue() * 0x1p-53;
    }

    float single(int d) {
        return noDrawer(d) ? -1.0f : takeBits(drawers.get(d), 24).intValue() * 0x1p-24f;
    }

    private boolean noCoin(int d, int up, int down) {
        return noDrawer(d) || down < 1 || up < 0 || up > down;
    }

    int coin(int d, int up, int down) {
        return noCoin(d, up, down) ? -1 : flip(drawers.get(d), up, down) ? 1 : 0;
    }

    int misses(int d, int up, int down, int most) {
        if (noCoin(d, up, down) || most < 0 || most > 1000) {
            return -1;
        }
        for (int i = 0; i < most; i++) {
            if (flip(drawers.get(d), up, down)) {
                return i;
            }
        }
        return most;
    }

    int hits(int d, int up, int down, int n) {
        if (noCoin(d, up, down) || n < 0 || n > 1000) {
            return -1;
        }
        int hits = 0;
        for (int i = 0; i < n; i++) {
            hits += flip(drawers.get(d), up, down) ? 1 : 0;
        }
        return hits;
    }

    long mask(int d, int up, int down, int n) {
        if (noCoin(d, up, down) || n < 1 || n > 64) {
            return 0;
        }
        BigInteger mask = BigInteger.ZERO;
        for (int i = 0; i < n; i++) {
            if (flip(drawers.get(d), up, down)) {
                mask = mask.setBit(i);
            }
        }
        return mask.longValue();
    }

    long normal(int d) {
        return noDrawer(d) ? 0 : drawNormal(drawers.get(d));
    }

    int permutation(int d, int n) {
        if (noDrawer(d) || n < 0 || n > 200) {
            return -1;
        }
        row = new ArrayList<>();
        for (int i = 0; i < n; i++) {
            row.add(i);
        }
        for (int i = n - 1; i >= 1; i--) {
            java.util.Collections.swap(row, i, (int) takeBelow(drawers.get(d), i + 1));
        }
        return n;
    }

    int subset(int d, int n, int m) {
        if (noDrawer(d) || n < 0 || n > 1000000 || m < 0 || m > 200 || m > n) {
            return -1;
        }
        TreeSet<Integer> set = new TreeSet<>();
        for (int j = n - m; j <= n - 1; j++) {
            if (!set.add((int) takeBelow(drawers.get(d), j + 1))) {
                set.add(j);
            }
        }
        row = new ArrayList<>(set);
        return m;
    }

    int at(int i) {
        if (i < 0 || i >= row.size()) {
            throw new ArrayIndexOutOfBoundsException();
        }
        return row.get(i);
    }

    long weight(int i, long w) {
        if (i < 0 || i > 31 || w < 0 || w > 1000000000000L) {
            return -1;
        }
        long was = weights[i];
        weights[i] = w;
        return was;
    }

    int choose(int d) {
        if (noDrawer(d)) {
            return -1;
        }
        long sum = java.util.Arrays.stream(weights).sum();
        if (sum == 0) {
            return -3;
        }
        long v = takeBelow(drawers.get(d), sum);
        int i = 0;
        while (v >= weights[i]) {
            v -= weights[i];
            i++;
        }
        return i;
    }

    private boolean noOrder(int key, int stream, int n, int i) {
        return noKey(key) || stream < 0 || n < 1 || n > 1073741824 || i < 0 || i >= n;
    }

    int secret(int key, int stream, int n, int i) {
        if (noOrder(key, stream, n, i)) {
            return -1;
        }
        long v = i;
        do {
            v = walk(keys.get(key), stream, bitsOfPart(n), v);
        } while (v >= n);
        return (int) v;
    }

    /** For small n alone: the place is looked for among all of them, so that nothing is walked back. */
    int back(int key, int stream, int n, int place) {
        if (noOrder(key, stream, n, place)) {
            return -1;
        }
        int i = 0;
        while (secret(key, stream, n, i) != place) {
            i++;
        }
        return i;
    }

    int count(int what) {
        return what == 0 ? keys.size() : what == 1 ? drawers.size() : what == 2 ? row.size() : -1;
    }
}
