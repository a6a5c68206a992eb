/** Promises 22 (weight), 23 (choose). */
public final class WeightsTest {
    private static final long MOST = 1000000000000L;
    private static final Due due = new Due();

    public static void main(String[] args) {
        weights();
        choices();
        greatWeights();
        nothingToChoose();
        due.end();
    }

    private static DrawStreams twoDrawers() {
        DrawStreams x = new DrawStreams();
        x.key(123);
        x.drawer(0, 4);
        x.drawer(0, 4);
        return x;
    }

    private static void weights() {
        DrawStreams x = new DrawStreams();
        for (int i = 0; i < 32; i++) {
            due.is("weight(" + i + ", " + (i + 5) + ")", x.weight(i, i + 5), 0);
        }
        for (int i = 31; i >= 0; i--) {
            due.is("weight(" + i + ", most)", x.weight(i, MOST), i + 5);
        }
        for (int i : new int[] {-1, 32, Integer.MIN_VALUE, Integer.MAX_VALUE}) {
            due.is("weight(" + i + ", 1)", x.weight(i, 1), -1);
        }
        for (long w : new long[] {-1, MOST + 1, Long.MIN_VALUE, Long.MAX_VALUE}) {
            due.is("weight(7, " + w + ")", x.weight(7, w), -1);
        }
        due.is("weight(7, 0) after refusals", x.weight(7, 0), MOST);
        due.is("weight(7, 3)", x.weight(7, 3), 0);
    }

    private static void choices() {
        DrawStreams x = twoDrawers();
        long[] w = new long[32];
        w[1] = 3;
        w[4] = 1;
        w[5] = 2;
        w[31] = 7;
        for (int i = 0; i < 32; i++) {
            x.weight(i, w[i]);
        }
        int[] chosen = new int[32];
        for (int n = 0; n < 150; n++) {
            long v = x.below(1, 13);
            int want = v < 3 ? 1 : v < 4 ? 4 : v < 6 ? 5 : 31;
            due.is("choose(0)", x.choose(0), want);
            chosen[want]++;
        }
        due.isTrue("as many words", x.same(0, 1));
        due.is("as many rejected", x.told(0, 1), x.told(1, 1));
        due.isTrue("each was met", chosen[1] > 0 && chosen[4] > 0 && chosen[5] > 0 && chosen[31] > 0);
    }

    private static void greatWeights() {
        DrawStreams x = twoDrawers();
        for (int i = 0; i < 32; i++) {
            x.weight(i, MOST);
        }
        for (int n = 0; n < 100; n++) {
            due.is("choose(0)", x.choose(0), x.below(1, 32 * MOST) / MOST);
        }
        due.isTrue("as many words", x.same(0, 1));
        for (int i = 0; i < 32; i++) {
            x.weight(i, i == 20 ? 1 : 0);
        }
        long place = x.told(0, 0);
        due.is("choose(0): one alone, of weight 1", x.choose(0), 20);
        due.is("a span of 1 takes nothing", x.told(0, 0), place);
    }

    private static void nothingToChoose() {
        DrawStreams x = new DrawStreams();
        due.is("choose(0) without drawers: the first told", x.choose(0), -1);
        x.key(1);
        x.drawer(0, 0);
        due.is("choose(0)", x.choose(0), -3);
        due.is("nothing is taken", x.told(0, 0), 0);
        x.weight(0, 9);
        for (int d : new int[] {-1, 1, Integer.MIN_VALUE, Integer.MAX_VALUE}) {
            due.is("choose(" + d + ")", x.choose(d), -1);
        }
        x.weight(0, 0);
        due.is("choose(0) again", x.choose(0), -3);
        due.is("told(0, 0)", x.told(0, 0), 0);
    }
}
