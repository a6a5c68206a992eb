import java.util.TreeMap;

/**
 * "numbers below a span without bias, reals, exact coins, .. permutations, sets, choices by weights, masks": each outcome
 * comes as often as it is due. The keys are fixed, so that the counts are the same in every run. NormalTest has normals.
 */
public final class SpreadTest {
    private static final int OBJECTS = 60;
    private static final int DRAWS = 500;
    /** Beyond five times the root of what is due there is no chance left to blame. */
    private static final double MOST_ROOTS = 5;
    private static final Due due = new Due();

    /** One draw of an object with drawer 0: the name of its outcome. */
    private interface Draw {
        String of(DrawStreams x);
    }

    public static void main(String[] args) {
        evenly("below(0, 5)", 5, 1, x -> "" + x.below(0, 5));
        evenly("below(0, 3 2^40), its part", 3, 1, x -> "" + (x.below(0, 3L << 40) >> 40));
        evenly("real(0), its tenth", 10, 1, x -> "" + (int) (x.real(0) * 10));
        evenly("single(0), its tenth", 10, 1, x -> "" + (int) (x.single(0) * 10));
        evenly("bits(0, 3)", 8, 1, x -> "" + x.bits(0, 3));
        evenly("mask(0, 1, 2, 4)", 16, 1, x -> "" + x.mask(0, 1, 2, 4));
        evenly("permutation(0, 4)", 24, 5, x -> row(x, x.permutation(0, 4)));
        evenly("subset(0, 6, 2)", 15, 3, x -> row(x, x.subset(0, 6, 2)));
        coins();
        choices();
        due.end();
    }

    private static String row(DrawStreams x, int n) {
        StringBuilder row = new StringBuilder();
        for (int i = 0; i < n; i++) {
            row.append(' ').append(x.at(i));
        }
        return row.toString();
    }

    private static DrawStreams object(int number) {
        DrawStreams x = new DrawStreams();
        x.key(number);
        x.drawer(0, 2);
        return x;
    }

    /** A draw may be several calls: an object stays below its 512. */
    private static TreeMap<String, Integer> counted(int calls, Draw draw) {
        TreeMap<String, Integer> counts = new TreeMap<>();
        for (int number = 0; number < OBJECTS; number++) {
            DrawStreams x = object(number);
            for (int i = 0; i < DRAWS / calls; i++) {
                counts.merge(draw.of(x), 1, Integer::sum);
            }
        }
        return counts;
    }

    private static void evenly(String call, int outcomes, int calls, Draw draw) {
        TreeMap<String, Integer> counts = counted(calls, draw);
        due.is(call + ": outcomes", counts.size(), outcomes);
        counts.forEach((outcome, count) -> near(call + " " + outcome, count, OBJECTS * (DRAWS / calls) / (double) outcomes));
    }

    private static void near(String what, double count, double want) {
        due.isTrue(what + ": " + count + " of " + want, Math.abs(count - want) < MOST_ROOTS * Math.sqrt(want));
    }

    private static void coins() {
        int[][] coins = {{1, 3}, {2, 3}, {1, 1000}, {1, Integer.MAX_VALUE}, {1 << 30, Integer.MAX_VALUE}};
        for (int[] coin : coins) {
            long hit = 0;
            for (int number = 0; number < 10; number++) {
                DrawStreams x = object(number);
                for (int i = 0; i < 50; i++) {
                    hit += x.hits(0, coin[0], coin[1], 1000);
                }
            }
            double want = 500000.0 * coin[0] / coin[1];
            near("coins of " + coin[0] + " / " + coin[1], hit, Math.max(want, 1));
        }
        double missed = 0;
        DrawStreams x = object(7);
        for (int i = 0; i < DRAWS; i++) {
            missed += x.misses(0, 1, 6, 1000);
        }
        due.isTrue("five misses on the mean: " + missed / DRAWS, Math.abs(missed / DRAWS - 5) < 1);
    }

    private static void choices() {
        long[] weights = {0, 3, 0, 1, 6};
        int[] counts = new int[32];
        for (int number = 0; number < OBJECTS; number++) {
            DrawStreams x = object(number);
            for (int i = 0; i < weights.length; i++) {
                x.weight(i, weights[i]);
            }
            for (int i = 0; i < DRAWS; i++) {
                counts[x.choose(0)]++;
            }
        }
        for (int i = 0; i < counts.length; i++) {
            long weight = i < weights.length ? weights[i] : 0;
            if (weight == 0) {
                due.is("chosen by a weight of 0: " + i, counts[i], 0);
            } else {
                near("chosen: " + i, counts[i], OBJECTS * DRAWS * weight / 10.0);
            }
        }
    }
}
