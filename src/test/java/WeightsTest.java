/** Promises 22 (weight), 23 (choose), within their bounds. */
public final class WeightsTest {
    private static final long MOST = 1000000000000L;
    private static final Due due = new Due();

    public static void main(String[] args) {
        choices();
        greatWeights();
        due.end();
    }

    private static DrawStreams twoDrawers() {
        DrawStreams x = new DrawStreams();
        x.key(123);
        x.drawer(0, 4);
        x.drawer(0, 4);
        return x;
    }

    private static void choices() {
        DrawStreams x = twoDrawers();
        long[] w = new long[32];
        w[1] = 3;
        w[4] = 1;
        w[5] = 2;
        w[31] = 7;
        for (int i = 0; i < 32; i++) {
            x.weight(i, w[i]);
        }
        int[] chosen = new int[32];
        for (int n = 0; n < 150; n++) {
            long v = x.below(1, 13);
            int want = v < 3 ? 1 : v < 4 ? 4 : v < 6 ? 5 : 31;
            due.is("choose(0)", x.choose(0), want);
            chosen[want]++;
        }
        due.isTrue("as many words", x.same(0, 1));
        due.is("as many rejected", x.told(0, 1), x.told(1, 1));
        due.isTrue("each was met", chosen[1] > 0 && chosen[4] > 0 && chosen[5] > 0 && chosen[31] > 0);
    }

    private static void greatWeights() {
        DrawStreams x = twoDrawers();
        for (int i = 0; i < 32; i++) {
            x.weight(i, MOST);
        }
        for (int n = 0; n < 100; n++) {
            due.is("choose(0)", x.choose(0), x.below(1, 32 * MOST) / MOST);
        }
        due.isTrue("as many words", x.same(0, 1));
        for (int i = 0; i < 32; i++) {
            x.weight(i, i == 20 ? 1 : 0);
        }
        long place = x.told(0, 0);
        due.is("choose(0): one alone, of weight 1", x.choose(0), 20);
        due.is("a span of 1 takes nothing", x.told(0, 0), place);
    }
}
