/** The bounds of a COIN, and of promises 14 to 17. */
public final class CoinBoundsTest {
    private static final int LEAST = Integer.MIN_VALUE;
    private static final int MOST = Integer.MAX_VALUE;
    private static final int[] NO_DRAWERS = {LEAST, -1, 1, 12, MOST};
    private static final Due due = new Due();

    public static void main(String[] args) {
        sureCoins();
        lessLikeAndGreater();
        theLeastCoin();
        theGreatestCoin();
        goingOnTwice();
        upAndDown();
        missesUpToMost();
        noMoreAreThrown();
        missesBeyond();
        hitsOfMany();
        hitsBeyond();
        masksFromEndToEnd();
        masksBeyond();
        due.end();
    }

    private static DrawStreams at(long place) {
        DrawStreams x = Places.keyOfZero();
        x.place(0, place);
        return x;
    }

    private static void thrown(long place, int up, int down, int want, int words) {
        DrawStreams x = at(place);
        String call = "coin(0, " + up + ", " + down + ") at " + place;
        due.is(call, x.coin(0, up, down), want);
        due.is(call + ": words", x.told(0, 0) - place, words);
        due.is(call + ": rejected", x.told(0, 1), 0);
    }

    /** "up 0: false, up = down: true, nothing being taken" */
    private static void sureCoins() {
        for (int down : new int[] {1, 2, MOST - 1, MOST}) {
            thrown(Places.WORD_0, 0, down, 0, 0);
            thrown(Places.WORD_4294967295, down, down, 1, 0);
        }
        DrawStreams x = at(Places.WORD_0);
        due.is("misses(0, 0, 1, 1000)", x.misses(0, 0, 1, 1000), 1000);
        due.is("misses(0, 1, 1, 1000)", x.misses(0, 1, 1, 1000), 0);
        due.is("hits(0, 0, 1, 1000)", x.hits(0, 0, 1, 1000), 0);
        due.is("hits(0, 1, 1, 1000)", x.hits(0, 1, 1, 1000), 1000);
        due.is("mask(0, 0, 1, 64)", x.mask(0, 0, 1, 64), 0);
        due.is("mask(0, 1, 1, 64)", x.mask(0, 1, 1, 64), -1);
        due.is("nothing is taken", x.told(0, 0), Places.WORD_0);
    }

    /** "a WORD less than q: true; greater: false; like q: it goes on, but if r is 0: false": q of 1 / 2 is the middle. */
    private static void lessLikeAndGreater() {
        for (int half : new int[] {1, 3, 1 << 29}) {
            thrown(Places.BELOW_MIDDLE, half, 2 * half, 1, 1);
            thrown(Places.MIDDLE, half, 2 * half, 0, 1);
            thrown(Places.ABOVE_MIDDLE, half, 2 * half, 0, 1);
        }
        thrown(Places.WORD_3, 1, 1 << 30, 1, 1);
        thrown(Places.WORD_0, 1, 1 << 30, 1, 1);
        thrown(Places.WORD_4294967292, (1 << 30) - 1, 1 << 30, 0, 1);
        thrown(Places.WORD_4294967295, (1 << 30) - 1, 1 << 30, 0, 1);
    }

    /** 1 of 2147483647: q is 2 and r 2, so that a word of 2 goes on; behind it q is 4. */
    private static void theLeastCoin() {
        thrown(Places.WORD_0, 1, MOST, 1, 1);
        thrown(Places.WORD_1, 1, MOST, 1, 1);
        thrown(Places.WORD_2, 1, MOST, 0, 2);
        thrown(Places.WORD_3, 1, MOST, 0, 1);
        thrown(Places.WORD_4294967295, 1, MOST, 0, 1);
    }

    /** 2147483646 of 2147483647: q is 4294967293 and r 2147483645, which makes it go on to a great q again. */
    private static void theGreatestCoin() {
        thrown(Places.WORD_0, MOST - 1, MOST, 1, 1);
        thrown(Places.WORD_4294967292, MOST - 1, MOST, 1, 1);
        thrown(Places.WORD_4294967293, MOST - 1, MOST, 1, 2);
        thrown(Places.WORD_4294967294, MOST - 1, MOST, 0, 1);
        thrown(Places.WORD_4294967295, MOST - 1, MOST, 0, 1);
    }

    /** "again and again": fractions that begin with two words of the stream, so that the third one tells. */
    private static void goingOnTwice() {
        int[][] known = {{37, 228745363, 1366525066, 0}, {54, 670645200, 1660258873, 1}, {70, 807682846, 1731469575, 1},
            {79, 1274483923, 2115915443, 0}, {87, 887379957, 972988214, 0}, {173, 51141400, 2091359511, 1}};
        for (int[] k : known) {
            thrown(k[0], k[1], k[2], k[3], 3);
        }
    }

    /** "BAD: down is not 1 .. 2147483647, up not 0 .. down." */
    private static void upAndDown() {
        DrawStreams x = at(Places.WORD_0);
        int[][] wrong = {{0, 0}, {1, 0}, {0, -1}, {-1, -1}, {0, LEAST}, {LEAST, LEAST}, {-1, 1}, {2, 1}, {-1, 6}, {7, 6},
            {-1, MOST}, {LEAST, MOST}, {MOST, MOST - 1}, {MOST, 1}};
        for (int[] w : wrong) {
            due.is("coin(0, " + w[0] + ", " + w[1] + ")", x.coin(0, w[0], w[1]), -1);
        }
        for (int d : NO_DRAWERS) {
            due.is("coin(" + d + ", 1, 2)", x.coin(d, 1, 2), -1);
            due.is("coin(" + d + ", 0, 1)", x.coin(d, 0, 1), -1);
        }
        due.is("nothing is taken", x.told(0, 0), Places.WORD_0);
    }

    /** "COINS till one is true: how many were not; most (0 .. 1000): so many were not" */
    private static void missesUpToMost() {
        DrawStreams x = at(Places.WORD_0 - 999);
        due.is("999 misses, and the thousandth is true", x.misses(0, 1, MOST, 1000), 999);
        due.is("it was thrown", x.told(0, 0), Places.WORD_0 + 1);
        x.place(0, Places.WORD_0 - 1000);
        due.is("1000 misses", x.misses(0, 1, MOST, 1000), 1000);
        due.is("no more are thrown", x.told(0, 0), Places.WORD_0);
        due.is("the next one is true", x.misses(0, 1, MOST, 1000), 0);
        due.is("it was thrown", x.told(0, 0), Places.WORD_0 + 1);
        x.place(0, Places.WORD_0);
        due.is("misses(0, 1, most, 1)", x.misses(0, 1, MOST, 1), 0);
        due.is("it was thrown", x.told(0, 0), Places.WORD_0 + 1);
    }

    /** "and no more are thrown": at the corner two words are false for 1 / 2, two are true. */
    private static void noMoreAreThrown() {
        int[][] known = {{0, 0, 0}, {1, 1, 1}, {2, 2, 2}, {3, 2, 3}, {4, 2, 3}, {1000, 2, 3}};
        for (int[] k : known) {
            DrawStreams x = Places.atCorner(0);
            due.is("misses(0, 1, 2, " + k[0] + ")", x.misses(0, 1, 2, k[0]), k[1]);
            due.is("told(0, 0)", x.told(0, 0) - Places.CORNER, k[2]);
        }
    }

    /** "BAD: as coin(), most." */
    private static void missesBeyond() {
        DrawStreams x = at(Places.WORD_0);
        due.is("misses(0, 1, 2, -1)", x.misses(0, 1, 2, -1), -1);
        due.is("misses(0, 1, 2, 1001)", x.misses(0, 1, 2, 1001), -1);
        due.is("misses(0, 1, 1, 1001)", x.misses(0, 1, 1, 1001), -1);
        due.is("misses(0, 1, 2, least)", x.misses(0, 1, 2, LEAST), -1);
        due.is("misses(0, 1, 2, greatest)", x.misses(0, 1, 2, MOST), -1);
        due.is("misses(0, 1, 0, 0)", x.misses(0, 1, 0, 0), -1);
        due.is("misses(0, 2, 1, 0)", x.misses(0, 2, 1, 0), -1);
        due.is("misses(0, -1, 1, 0)", x.misses(0, -1, 1, 0), -1);
        for (int d : NO_DRAWERS) {
            due.is("misses(" + d + ", 1, 2, 0)", x.misses(d, 1, 2, 0), -1);
        }
        due.is("nothing is taken", x.told(0, 0), Places.WORD_0);
    }

    /** "How many of n COINS (0 .. 1000) are true." */
    private static void hitsOfMany() {
        DrawStreams x = at(Places.WORD_0 - 999);
        due.is("the thousandth is true", x.hits(0, 1, MOST, 1000), 1);
        due.is("told(0, 0)", x.told(0, 0), Places.WORD_0 + 1);
        x.place(0, Places.WORD_0 - 1000);
        due.is("the one behind a thousand", x.hits(0, 1, MOST, 1000), 0);
        due.is("told(0, 0)", x.told(0, 0), Places.WORD_0);
        int[][] known = {{0, 0}, {1, 0}, {2, 0}, {3, 1}, {4, 2}, {999, 496}, {1000, 497}};
        for (int[] k : known) {
            DrawStreams corner = Places.atCorner(0);
            due.is("hits(0, 1, 2, " + k[0] + ")", corner.hits(0, 1, 2, k[0]), k[1]);
            due.is("told(0, 0)", corner.told(0, 0) - Places.CORNER, k[0]);
        }
    }

    /** "BAD: likewise." */
    private static void hitsBeyond() {
        DrawStreams x = at(Places.WORD_0);
        due.is("hits(0, 1, 2, -1)", x.hits(0, 1, 2, -1), -1);
        due.is("hits(0, 1, 2, 1001)", x.hits(0, 1, 2, 1001), -1);
        due.is("hits(0, 0, 2, 1001)", x.hits(0, 0, 2, 1001), -1);
        due.is("hits(0, 1, 2, least)", x.hits(0, 1, 2, LEAST), -1);
        due.is("hits(0, 1, 2, greatest)", x.hits(0, 1, 2, MOST), -1);
        due.is("hits(0, 0, 0, 0)", x.hits(0, 0, 0, 0), -1);
        due.is("hits(0, 2, 1, 0)", x.hits(0, 2, 1, 0), -1);
        due.is("hits(0, -1, 1, 0)", x.hits(0, -1, 1, 0), -1);
        for (int d : NO_DRAWERS) {
            due.is("hits(" + d + ", 1, 2, 0)", x.hits(d, 1, 2, 0), -1);
        }
        due.is("nothing is taken", x.told(0, 0), Places.WORD_0);
    }

    /** "n COINS (1 .. 64): bit i tells the i-th, from 0." */
    private static void masksFromEndToEnd() {
        long[][] known = {{0, 1, 0}, {0, 2, 0}, {0, 3, 4}, {0, 4, 12}, {2, 1, 1}, {2, 2, 3}, {0, 63, 3059106651250793612L},
            {0, 64, -6164265385603982196L}, {-61, 63, 1062068585668560673L}, {-61, 64, -8161303451186215135L},
            {-62, 64, 2124137171337121347L}};
        for (long[] k : known) {
            DrawStreams x = Places.atCorner((int) k[0]);
            due.is("mask(0, 1, 2, " + k[1] + ") at " + k[0], x.mask(0, 1, 2, (int) k[1]), k[2]);
            due.is("told(0, 0)", x.told(0, 0) - Places.CORNER, k[0] + k[1]);
        }
        DrawStreams x = Places.atCorner(0);
        due.is("mask(0, 1, 1, 1)", x.mask(0, 1, 1, 1), 1);
        due.is("mask(0, 1, 1, 63)", x.mask(0, 1, 1, 63), Long.MAX_VALUE);
        due.is("mask(0, 1, 1, 64)", x.mask(0, 1, 1, 64), -1);
        due.is("mask(0, 0, 1, 64)", x.mask(0, 0, 1, 64), 0);
    }

    /** "0 also as BAD." */
    private static void masksBeyond() {
        DrawStreams x = Places.atCorner(2);
        for (int n : new int[] {LEAST, -1, 0, 65, MOST}) {
            due.is("mask(0, 1, 2, " + n + ")", x.mask(0, 1, 2, n), 0);
            due.is("mask(0, 1, 1, " + n + ")", x.mask(0, 1, 1, n), 0);
        }
        int[][] wrong = {{0, 0}, {1, 0}, {1, -1}, {-1, 1}, {2, 1}, {MOST, MOST - 1}};
        for (int[] w : wrong) {
            due.is("mask(0, " + w[0] + ", " + w[1] + ", 64)", x.mask(0, w[0], w[1], 64), 0);
        }
        for (int d : NO_DRAWERS) {
            due.is("mask(" + d + ", 1, 1, 64)", x.mask(d, 1, 1, 64), 0);
        }
        due.is("nothing is taken", x.told(0, 0) - Places.CORNER, 2);
    }
}
