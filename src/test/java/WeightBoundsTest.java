/** The bounds of promises 22 and 23. */
public final class WeightBoundsTest {
    private static final int LEAST = Integer.MIN_VALUE;
    private static final int MOST = Integer.MAX_VALUE;
    private static final long MOST_WEIGHT = 1000000000000L;
    private static final int[] NO_DRAWERS = {LEAST, -1, 1, 12, MOST};
    private static final Due due = new Due();

    public static void main(String[] args) {
        allZeroAtFirst();
        weightsAtTheEnds();
        weightsBeyond();
        moreThanV();
        firstAndLast();
        theGreatestSum();
        aSumOfOne();
        nothingToChoose();
        noSuchDrawer();
        due.end();
    }

    private static void chosen(DrawStreams x, int want, long words, long rejected) {
        long place = x.told(0, 0);
        long before = x.told(0, 1);
        due.is("choose(0)", x.choose(0), want);
        due.is("choose(0): words", x.told(0, 0) - place, words);
        due.is("choose(0): rejected", x.told(0, 1) - before, rejected);
    }

    /** "Weight i (0 .. 31; all 0 at first)" */
    private static void allZeroAtFirst() {
        DrawStreams x = new DrawStreams();
        for (int i = 0; i <= 31; i++) {
            due.is("weight(" + i + ", " + (i + 1) + ")", x.weight(i, i + 1), 0);
        }
        for (int i = 0; i <= 31; i++) {
            due.is("weight(" + i + ", 0)", x.weight(i, 0), i + 1);
        }
    }

    /** "is w (0 .. 10 to the 12) from now on: what it was" */
    private static void weightsAtTheEnds() {
        DrawStreams x = new DrawStreams();
        for (int i : new int[] {0, 31}) {
            due.is("weight(" + i + ", most)", x.weight(i, MOST_WEIGHT), 0);
            due.is("weight(" + i + ", most less 1)", x.weight(i, MOST_WEIGHT - 1), MOST_WEIGHT);
            due.is("weight(" + i + ", 0)", x.weight(i, 0), MOST_WEIGHT - 1);
            due.is("weight(" + i + ", 1)", x.weight(i, 1), 0);
            due.is("weight(" + i + ", 1) again", x.weight(i, 1), 1);
        }
        due.is("its neighbours stay: weight(1, 0)", x.weight(1, 0), 0);
        due.is("its neighbours stay: weight(30, 0)", x.weight(30, 0), 0);
    }

    /** "BAD.": i is not 0 .. 31, w not 0 .. 10 to the 12; and what it was stays. */
    private static void weightsBeyond() {
        DrawStreams x = new DrawStreams();
        x.weight(0, 5);
        x.weight(31, 6);
        for (int i : new int[] {LEAST, -1, 32, MOST}) {
            due.is("weight(" + i + ", 0)", x.weight(i, 0), -1);
            due.is("weight(" + i + ", 1)", x.weight(i, 1), -1);
        }
        for (long w : new long[] {Long.MIN_VALUE, -1, MOST_WEIGHT + 1, Long.MAX_VALUE}) {
            due.is("weight(0, " + w + ")", x.weight(0, w), -1);
            due.is("weight(31, " + w + ")", x.weight(31, w), -1);
        }
        due.is("weight(0, 0)", x.weight(0, 0), 5);
        due.is("weight(31, 0)", x.weight(31, 0), 6);
    }

    /** "the first i for which weights 0 to i together are more than v": a v like their sum goes on to the next one. */
    private static void moreThanV() {
        DrawStreams x = Places.keyOfZero();
        x.weight(3, 2);
        x.weight(5, 1);
        x.weight(9, 1);
        x.place(0, Places.WORD_0);
        chosen(x, 3, 1, 0);
        x.place(0, Places.BELOW_MIDDLE);
        chosen(x, 3, 1, 0);
        x.place(0, Places.MIDDLE);
        chosen(x, 5, 1, 0);
        x.place(0, Places.WORD_4294967295);
        chosen(x, 9, 1, 0);
    }

    /** v of 0 and of the sum less 1, at either end of the weights, those of 0 being passed over. */
    private static void firstAndLast() {
        DrawStreams x = Places.atCorner(1);
        x.weight(0, 1);
        x.weight(31, 1);
        chosen(x, 31, 1, 0);
        chosen(x, 0, 1, 0);
        x.weight(0, 0);
        x.weight(31, 0);
        x.weight(1, MOST_WEIGHT);
        x.weight(30, 99511627776L);
        x.place(0, Places.CORNER);
        chosen(x, 30, 2, 0);
        chosen(x, 1, 2, 0);
    }

    /** 32 times 10 to the 12 have 45 bits: the greatest of them are rejected. */
    private static void theGreatestSum() {
        DrawStreams x = Places.atCorner(0);
        for (int i = 0; i < 32; i++) {
            x.weight(i, MOST_WEIGHT);
        }
        chosen(x, 0, 4, 1);
        x.place(0, Places.CORNER - 1);
        due.is("the words ahead of the corner", x.word(0, Places.CORNER_STREAM, Places.CORNER - 1), 3075442695L);
        long v = 3075442695L << 13 | 8191;
        chosen(x, (int) (v / MOST_WEIGHT), 2, 0);
    }

    /** A sum of 1: BELOW 1 takes nothing. */
    private static void aSumOfOne() {
        for (int i : new int[] {0, 20, 31}) {
            DrawStreams x = Places.atCorner(0);
            x.weight(i, 1);
            chosen(x, i, 0, 0);
        }
    }

    /** "NONE: all are 0 (nothing is taken)." */
    private static void nothingToChoose() {
        DrawStreams x = Places.atCorner(2);
        chosen(x, -3, 0, 0);
        x.weight(31, 1);
        chosen(x, 31, 0, 0);
        x.weight(31, 0);
        chosen(x, -3, 0, 0);
    }

    /** "BAD; NONE": BAD is the first told. */
    private static void noSuchDrawer() {
        DrawStreams x = new DrawStreams();
        due.is("choose(0) without drawers", x.choose(0), -1);
        DrawStreams y = Places.atCorner(0);
        for (int d : NO_DRAWERS) {
            due.is("without weights: choose(" + d + ")", y.choose(d), -1);
        }
        y.weight(0, 8);
        for (int d : NO_DRAWERS) {
            due.is("choose(" + d + ")", y.choose(d), -1);
        }
        due.is("nothing is taken", y.told(0, 0), Places.CORNER);
    }
}
