/** Promises 14 (coin), 15 (misses), 16 (hits), 17 (mask), within their bounds. */
public final class CoinsTest {
    private static final int MOST = Integer.MAX_VALUE;
    private static final Due due = new Due();

    public static void main(String[] args) {
        likeTheWord();
        goingOn();
        manyCoins();
        due.end();
    }

    /** Drawer 1 goes beside drawer 0, to throw by coin() what the other calls throw at once. */
    private static DrawStreams twoDrawers() {
        DrawStreams x = new DrawStreams();
        x.key(2026);
        x.drawer(0, 5);
        x.drawer(0, 5);
        return x;
    }

    /** A word that 4 divides is q itself for word / 4 of 2 to the 30, and no rest is left then. */
    private static void likeTheWord() {
        DrawStreams x = twoDrawers();
        int down = 1 << 30;
        int met = 0;
        for (long p = 0; met < 10; p++) {
            long word = x.word(0, 5, p);
            if (word % 4 != 0) {
                continue;
            }
            met++;
            int up = (int) (word / 4);
            x.place(0, p);
            due.is("like q, no rest", x.coin(0, up, down), 0);
            due.is("one word", x.told(0, 0), p + 1);
            x.place(0, p);
            due.is("less than q", x.coin(0, up + 1, down), 1);
            x.place(0, p);
            due.is("greater than q", x.coin(0, up - 1, down), 0);
            due.is("one word", x.told(0, 0), p + 1);
        }
    }

    /** up is made so that q is the word at a place: the coin goes on with the rest and the next word. */
    private static void goingOn() {
        DrawStreams x = twoDrawers();
        int met = 0;
        int hit = 0;
        for (long p = 0; met < 40; p++) {
            long word = x.word(0, 5, p);
            int down = MOST - (int) p;
            long up = (word * down >>> 32) + 1;
            long rest = (up << 32) - word * down;
            if (word > MOST || rest < 0 || rest >= down || up >= down) {
                continue;
            }
            met++;
            long second = (rest << 32) / down;
            int want = x.word(0, 5, p + 1) < second ? 1 : 0;
            hit += want;
            x.place(0, p);
            due.is("coin(0, " + up + ", " + down + ") at " + p, x.coin(0, (int) up, down), want);
            due.is("two words", x.told(0, 0), p + 2);
        }
        due.isTrue("both sides were met", hit > 0 && hit < met);
    }

    private static void manyCoins() {
        int[][] coins = {{1, 2}, {1, 6}, {5, 6}, {1, 3}, {1, MOST}, {MOST - 1, MOST}, {123456789, 987654321}};
        for (int[] c : coins) {
            DrawStreams x = twoDrawers();
            String of = c[0] + ", " + c[1];
            int hits = 0;
            for (int i = 0; i < 90; i++) {
                hits += x.coin(1, c[0], c[1]);
            }
            due.is("hits(0, " + of + ", 90)", x.hits(0, c[0], c[1], 90), hits);
            long mask = 0;
            for (int i = 0; i < 64; i++) {
                mask |= (long) x.coin(1, c[0], c[1]) << i;
            }
            due.is("mask(0, " + of + ", 64)", x.mask(0, c[0], c[1], 64), mask);
            due.is("mask(0, " + of + ", 1)", x.mask(0, c[0], c[1], 1), x.coin(1, c[0], c[1]));
            for (int most : new int[] {1, 2, 20}) {
                int missed = 0;
                while (missed < most && x.coin(1, c[0], c[1]) == 0) {
                    missed++;
                }
                due.is("misses(0, " + of + ", " + most + ")", x.misses(0, c[0], c[1], most), missed);
            }
            due.isTrue("as many words: " + of, x.same(0, 1));
        }
        DrawStreams x = twoDrawers();
        due.is("misses(0, 1, most, 1000)", x.misses(0, 1, MOST, 1000), 1000);
        due.is("no more are thrown", x.told(0, 0), 1000);
        due.isTrue("hits(0, 1, 2, 1000)", Math.abs(x.hits(0, 1, 2, 1000) - 500) < 80);
        due.is("told(0, 0)", x.told(0, 0), 2000);
    }
}
