import java.util.function.Function;

/**
 * "REFUSALS change nothing; of several the first told": every way in which a call can be refused, promise by promise,
 * just beyond each bound and far beyond it, on a new object, on one in use and on one that is full.
 */
public final class RefusalsTest {
    private static final int LEAST = Integer.MIN_VALUE;
    private static final int MOST = Integer.MAX_VALUE;
    private static final long MOST_PLACE = 2305843009213693952L;
    private static final long MOST_WEIGHT = 1000000000000L;
    private static final int BAD = -1;
    private static final int FULL = -2;
    private static final int NONE = -3;
    private static final Due due = new Due();

    private final Twins twins;
    private final int[] noKeys;
    private final int[] noDrawers;

    private RefusalsTest(Twins twins) {
        this.twins = twins;
        int keys = twins.another().count(0);
        int drawers = twins.another().count(1);
        noKeys = new int[] {LEAST, -1, keys, MOST};
        noDrawers = new int[] {LEAST, -1, drawers, MOST};
    }

    public static void main(String[] args) {
        RefusalsTest ofNew = new RefusalsTest(new Twins(due, "new", DrawStreams::new));
        RefusalsTest ofUsed = new RefusalsTest(new Twins(due, "in use", RefusalsTest::inUse));
        RefusalsTest ofFull = new RefusalsTest(new Twins(due, "full", RefusalsTest::full));
        for (RefusalsTest of : new RefusalsTest[] {ofNew, ofUsed, ofFull}) {
            of.noSuchKey();
            of.noSuchDrawer();
            of.noSuchWeight();
            of.noSuchNumberOfTheRow();
            of.noSuchCount();
        }
        for (RefusalsTest of : new RefusalsTest[] {ofUsed, ofFull}) {
            of.wordsAndDrawers();
            of.placesAndNumbers();
            of.coins();
            of.rows();
            of.orders();
            of.asking();
        }
        ofUsed.nothingToTake();
        ofFull.noRoom();
        new RefusalsTest(new Twins(due, "no weights", RefusalsTest::withoutWeights)).nothingToChoose();
        due.end();
    }

    private static DrawStreams inUse() {
        DrawStreams x = new DrawStreams();
        x.key(7);
        x.key(-1);
        x.split(0, -3);
        x.drawer(2, 4);
        x.drawer(1, MOST);
        x.place(1, MOST_PLACE);
        for (int i = 0; i < 20; i++) {
            x.below(0, 129);
        }
        x.subset(0, 30, 6);
        x.weight(0, 3);
        x.weight(31, 9);
        return x;
    }

    private static DrawStreams full() {
        DrawStreams x = new DrawStreams();
        for (int key = 0; key < 16; key++) {
            x.key(key * 0x123456789ABCDEFL);
        }
        for (int d = 0; d < 12; d++) {
            x.drawer(d, 100 + d);
            x.below(d, 5);
        }
        for (int i = 0; i < 32; i++) {
            x.weight(i, MOST_WEIGHT);
        }
        x.permutation(11, 200);
        return x;
    }

    private static DrawStreams withoutWeights() {
        DrawStreams x = inUse();
        x.weight(0, 0);
        x.weight(31, 0);
        return x;
    }

    private void bad(String call, Function<DrawStreams, Object> made) {
        twins.changesNothing(call, made, BAD);
    }

    /** Promises 3 to 6, 24, 25: "BAD (no such KEY ..". On a full object also: BAD is told ahead of FULL. */
    private void noSuchKey() {
        for (int key : noKeys) {
            bad("split(" + key + ", 0)", x -> x.split(key, 0));
            bad("bitsOf(" + key + ")", x -> x.bitsOf(key));
            bad("word(" + key + ", 0, 0)", x -> x.word(key, 0, 0));
            bad("drawer(" + key + ", 0)", x -> x.drawer(key, 0));
            bad("secret(" + key + ", 0, 10, 0)", x -> x.secret(key, 0, 10, 0));
            bad("back(" + key + ", 0, 10, 0)", x -> x.back(key, 0, 10, 0));
        }
    }

    /** Promises 7 to 20, 23: "BAD (.. no such DRAWER ..", or what the promise tells in its place. */
    private void noSuchDrawer() {
        for (int d : noDrawers) {
            bad("place(" + d + ", 0)", x -> x.place(d, 0));
            bad("told(" + d + ", 0)", x -> x.told(d, 0));
            twins.changesNothing("same(" + d + ", 0)", x -> x.same(d, 0), false);
            twins.changesNothing("same(0, " + d + ")", x -> x.same(0, d), false);
            twins.changesNothing("same(" + d + ", " + d + ")", x -> x.same(d, d), false);
            bad("bits(" + d + ", 8)", x -> x.bits(d, 8));
            bad("below(" + d + ", 5)", x -> x.below(d, 5));
            bad("below(" + d + ", 0), BAD being told ahead of ArithmeticException", x -> x.below(d, 0));
            twins.changesNothing("real(" + d + ")", x -> x.real(d), -1.0);
            twins.changesNothing("single(" + d + ")", x -> x.single(d), -1.0f);
            bad("coin(" + d + ", 1, 1)", x -> x.coin(d, 1, 1));
            bad("misses(" + d + ", 1, 1, 5)", x -> x.misses(d, 1, 1, 5));
            bad("hits(" + d + ", 1, 1, 5)", x -> x.hits(d, 1, 1, 5));
            twins.changesNothing("mask(" + d + ", 1, 1, 5)", x -> x.mask(d, 1, 1, 5), 0);
            twins.changesNothing("normal(" + d + ")", x -> x.normal(d), 0);
            bad("permutation(" + d + ", 5)", x -> x.permutation(d, 5));
            bad("permutation(" + d + ", 0)", x -> x.permutation(d, 0));
            bad("subset(" + d + ", 5, 2)", x -> x.subset(d, 5, 2));
            bad("subset(" + d + ", 5, 0)", x -> x.subset(d, 5, 0));
            bad("choose(" + d + ")", x -> x.choose(d));
        }
    }

    /** Promise 22: i is 0 .. 31, w 0 .. 10 to the 12. */
    private void noSuchWeight() {
        for (int i : new int[] {LEAST, -1, 32, MOST}) {
            bad("weight(" + i + ", 1)", x -> x.weight(i, 1));
        }
        for (long w : new long[] {Long.MIN_VALUE, -1, MOST_WEIGHT + 1, Long.MAX_VALUE}) {
            bad("weight(0, " + w + ")", x -> x.weight(0, w));
            bad("weight(31, " + w + ")", x -> x.weight(31, w));
        }
    }

    /** Promise 21: "ArrayIndexOutOfBoundsException: none such." */
    private void noSuchNumberOfTheRow() {
        int row = twins.another().count(2);
        for (int i : new int[] {LEAST, -1, row, row + 1, MOST}) {
            twins.changesNothing("at(" + i + ")", x -> x.at(i), "throws.ArrayIndexOutOfBoundsException");
        }
    }

    /** Promise 26: what is 0 .. 2. */
    private void noSuchCount() {
        for (int what : new int[] {LEAST, -1, 3, MOST}) {
            bad("count(" + what + ")", x -> x.count(what));
        }
    }

    /** Promises 5, 6: a STREAM is 0 .. 2147483647, i 0 at least. Ahead of FULL, too. */
    private void wordsAndDrawers() {
        for (int stream : new int[] {LEAST, -1}) {
            bad("word(0, " + stream + ", 0)", x -> x.word(0, stream, 0));
            bad("drawer(0, " + stream + ")", x -> x.drawer(0, stream));
        }
        for (long i : new long[] {Long.MIN_VALUE, -4, -1}) {
            bad("word(0, 0, " + i + ")", x -> x.word(0, 0, i));
        }
    }

    /** Promises 7, 8, 10, 11: a PLACE is 0 .. 2 to the 61, what 0 .. 3, BITS are 0 .. 64, a span is 1 at least. */
    private void placesAndNumbers() {
        for (long place : new long[] {Long.MIN_VALUE, -1, MOST_PLACE + 1, Long.MAX_VALUE}) {
            bad("place(0, " + place + ")", x -> x.place(0, place));
        }
        for (int what : new int[] {LEAST, -1, 4, MOST}) {
            bad("told(0, " + what + ")", x -> x.told(0, what));
        }
        for (int n : new int[] {LEAST, -1, 65, MOST}) {
            bad("bits(0, " + n + ")", x -> x.bits(0, n));
        }
        for (long span : new long[] {Long.MIN_VALUE, -1}) {
            bad("below(0, " + span + ")", x -> x.below(0, span));
        }
        twins.changesNothing("below(0, 0)", x -> x.below(0, 0), "throws.ArithmeticException");
    }

    /** Promises 14 to 17: down is 1 .. 2147483647, up 0 .. down, most and n 0 .. 1000, of mask() 1 .. 64. */
    private void coins() {
        int[][] wrong = {{1, 0}, {0, 0}, {-1, 0}, {-1, -1}, {0, -1}, {1, -1}, {0, LEAST}, {LEAST, LEAST}, {-1, 1}, {2, 1},
            {-1, 6}, {7, 6}, {LEAST, 6}, {MOST, 6}, {-1, MOST}, {MOST, MOST - 1}};
        for (int[] w : wrong) {
            String of = "(0, " + w[0] + ", " + w[1];
            bad("coin" + of + ")", x -> x.coin(0, w[0], w[1]));
            bad("misses" + of + ", 5)", x -> x.misses(0, w[0], w[1], 5));
            bad("misses" + of + ", 0)", x -> x.misses(0, w[0], w[1], 0));
            bad("hits" + of + ", 5)", x -> x.hits(0, w[0], w[1], 5));
            bad("hits" + of + ", 0)", x -> x.hits(0, w[0], w[1], 0));
            twins.changesNothing("mask" + of + ", 5)", x -> x.mask(0, w[0], w[1], 5), 0);
        }
        for (int n : new int[] {LEAST, -1, 1001, MOST}) {
            bad("misses(0, 1, 2, " + n + ")", x -> x.misses(0, 1, 2, n));
            bad("misses(0, 1, 1, " + n + ")", x -> x.misses(0, 1, 1, n));
            bad("hits(0, 1, 2, " + n + ")", x -> x.hits(0, 1, 2, n));
        }
        for (int n : new int[] {LEAST, -1, 0, 65, MOST}) {
            twins.changesNothing("mask(0, 1, 1, " + n + ")", x -> x.mask(0, 1, 1, n), 0);
            twins.changesNothing("mask(0, 1, 2, " + n + ")", x -> x.mask(0, 1, 2, n), 0);
        }
    }

    /** Promises 19, 20: n is 0 .. 200; n is 0 .. 1000000 and m 0 .. 200, n at most. */
    private void rows() {
        for (int n : new int[] {LEAST, -1, 201, MOST}) {
            bad("permutation(0, " + n + ")", x -> x.permutation(0, n));
        }
        int[][] wrong = {{-1, 0}, {-1, -1}, {LEAST, 0}, {1000001, 0}, {1000001, 200}, {MOST, 1}, {5, -1}, {5, 6},
            {5, LEAST}, {5, MOST}, {0, 1}, {0, -1}, {199, 200}, {200, 201}, {201, 201}, {1000000, 201}, {1000000, -1},
            {MOST, MOST}};
        for (int[] w : wrong) {
            bad("subset(0, " + w[0] + ", " + w[1] + ")", x -> x.subset(0, w[0], w[1]));
        }
    }

    /** Promises 24, 25: a STREAM, n 1 .. 1073741824, i and the PLACE 0 .. n - 1. */
    private void orders() {
        int[][] wrong = {{-1, 10, 0}, {LEAST, 10, 0}, {0, 0, 0}, {0, 0, -1}, {0, -1, 0}, {0, -1, -1}, {0, -1, -2},
            {0, LEAST, 0}, {0, 1073741825, 0}, {0, MOST, 0}, {0, 10, -1}, {0, 10, 10}, {0, 10, LEAST}, {0, 10, MOST},
            {0, 1, 1}, {0, 1, -1}, {0, 1073741824, 1073741824}, {0, 1073741824, -1}};
        for (int[] w : wrong) {
            String of = "(0, " + w[0] + ", " + w[1] + ", " + w[2] + ")";
            bad("secret" + of, x -> x.secret(0, w[0], w[1], w[2]));
            bad("back" + of, x -> x.back(0, w[0], w[1], w[2]));
        }
    }

    /** No refusals, but they change nothing either: "the order of asking changes nothing". */
    private void asking() {
        DrawStreams other = twins.another();
        twins.changesNothing("bitsOf(0)", x -> x.bitsOf(0), other.bitsOf(0));
        twins.changesNothing("word(0, 4, 5)", x -> x.word(0, 4, 5), other.word(0, 4, 5));
        twins.changesNothing("told(0, 1)", x -> x.told(0, 1), other.told(0, 1));
        twins.changesNothing("same(0, 0)", x -> x.same(0, 0), true);
        twins.changesNothing("same(0, 1)", x -> x.same(0, 1), false);
        twins.changesNothing("at(5)", x -> x.at(5), other.at(5));
        twins.changesNothing("secret(0, 0, 10, 3)", x -> x.secret(0, 0, 10, 3), other.secret(0, 0, 10, 3));
        twins.changesNothing("back(0, 0, 10, 3)", x -> x.back(0, 0, 10, 3), other.back(0, 0, 10, 3));
        twins.changesNothing("count(2)", x -> x.count(2), other.count(2));
    }

    /** Nor do these: no bits, a span of 1, coins that are sure, none of them, and no coins at all. */
    private void nothingToTake() {
        twins.changesNothing("bits(0, 0)", x -> x.bits(0, 0), 0);
        twins.changesNothing("below(0, 1)", x -> x.below(0, 1), 0);
        twins.changesNothing("coin(0, 0, 9)", x -> x.coin(0, 0, 9), 0);
        twins.changesNothing("coin(0, 9, 9)", x -> x.coin(0, 9, 9), 1);
        twins.changesNothing("misses(0, 0, 9, 1000)", x -> x.misses(0, 0, 9, 1000), 1000);
        twins.changesNothing("misses(0, 1, 2, 0)", x -> x.misses(0, 1, 2, 0), 0);
        twins.changesNothing("hits(0, 9, 9, 1000)", x -> x.hits(0, 9, 9, 1000), 1000);
        twins.changesNothing("hits(0, 1, 2, 0)", x -> x.hits(0, 1, 2, 0), 0);
        twins.changesNothing("mask(0, 9, 9, 64)", x -> x.mask(0, 9, 9, 64), -1);
    }

    /** Promises 2, 3, 6: FULL, with nothing BAD ahead of it. */
    private void noRoom() {
        twins.changesNothing("key(5)", x -> x.key(5), FULL);
        twins.changesNothing("split(0, 0)", x -> x.split(0, 0), FULL);
        twins.changesNothing("split(15, -1)", x -> x.split(15, -1), FULL);
        twins.changesNothing("drawer(0, 0)", x -> x.drawer(0, 0), FULL);
        twins.changesNothing("drawer(15, 2147483647)", x -> x.drawer(15, MOST), FULL);
    }

    /** Promise 23: "NONE: all are 0 (nothing is taken)", and BAD ahead of it. */
    private void nothingToChoose() {
        twins.changesNothing("choose(0)", x -> x.choose(0), NONE);
        twins.changesNothing("choose(1)", x -> x.choose(1), NONE);
        for (int d : noDrawers) {
            bad("choose(" + d + ")", x -> x.choose(d));
        }
    }
}
