/** The bounds of BITS and BELOW, and of promises 10 to 13, at the corner where the words are all bits 1, then all 0. */
public final class NumberBoundsTest {
    private static final long ALL_32 = 4294967295L;
    private static final int[] NO_DRAWERS = {Integer.MIN_VALUE, -1, 1, Integer.MAX_VALUE};
    private static final Due due = new Due();

    public static void main(String[] args) {
        theCorner();
        bitsAndTheirWords();
        bitsBeyond();
        bitsMayLookBad();
        bitsOfASpan();
        notLessThanTheSpan();
        theGreatestSpan();
        spanOfOne();
        spanOfZero();
        spansBelowZero();
        reals();
        singles();
        due.end();
    }

    private static void theCorner() {
        DrawStreams x = Places.atCorner(0);
        long[] words = {ALL_32, ALL_32, 0, 0};
        for (int i = 0; i < 4; i++) {
            due.is("word " + i, x.word(0, Places.CORNER_STREAM, Places.CORNER + i), words[i]);
        }
    }

    private static void taken(DrawStreams x, int behind) {
        due.is("told(0, 0)", x.told(0, 0) - Places.CORNER, behind);
    }

    /** "n above 32: a WORD, behind it another one ..; 1 to 32: .. a WORD; 0: nothing is taken, and they are 0." */
    private static void bitsAndTheirWords() {
        long[][] known = {{0, 0, 0, 0}, {1, 1, 1, 1}, {2, 3, 3, 1}, {31, 2147483647L, 2147483647L, 1},
            {32, ALL_32, ALL_32, 1}, {33, 8589934591L, 8589934590L, 2}, {53, 9007199254740991L, 9007199252643840L, 2},
            {63, Long.MAX_VALUE, 9223372034707292160L, 2}, {64, -1, -4294967296L, 2}};
        for (long[] k : known) {
            DrawStreams x = Places.atCorner(0);
            due.is("bits(0, " + k[0] + ") of two words of bits 1", x.bits(0, (int) k[0]), k[1]);
            taken(x, (int) k[3]);
            x = Places.atCorner(1);
            due.is("bits(0, " + k[0] + ") of one, and one of bits 0", x.bits(0, (int) k[0]), k[2]);
            taken(x, 1 + (int) k[3]);
            x = Places.atCorner(2);
            due.is("bits(0, " + k[0] + ") of two words of bits 0", x.bits(0, (int) k[0]), 0);
            taken(x, 2 + (int) k[3]);
            due.is("told(0, 1)", x.told(0, 1), 0);
        }
    }

    /** "BAD: n is not 0 .. 64" */
    private static void bitsBeyond() {
        DrawStreams x = Places.atCorner(2);
        for (int n : new int[] {Integer.MIN_VALUE, -1, 65, Integer.MAX_VALUE}) {
            due.is("bits(0, " + n + ")", x.bits(0, n), -1);
        }
        for (int d : NO_DRAWERS) {
            due.is("bits(" + d + ", 0)", x.bits(d, 0), -1);
            due.is("bits(" + d + ", 64)", x.bits(d, 64), -1);
        }
        taken(x, 2);
        due.is("bits(0, 64)", x.bits(0, 64), 0);
    }

    /** "(which they may be)": 64 bits of 1 are like BAD, but two words are taken. */
    private static void bitsMayLookBad() {
        DrawStreams x = Places.atCorner(0);
        due.is("bits(0, 64)", x.bits(0, 64), -1);
        taken(x, 2);
    }

    /** "n is the least with 2 to the n not less than the span": a power of two takes no bit more than it needs. */
    private static void bitsOfASpan() {
        for (int n = 1; n <= 62; n++) {
            long span = 1L << n;
            DrawStreams x = Places.atCorner(0);
            due.is("below(0, 2 to the " + n + ")", x.below(0, span), span - 1);
            taken(x, n <= 32 ? 1 : 2);
            due.is("told(0, 1)", x.told(0, 1), 0);
        }
        DrawStreams x = Places.atCorner(0);
        due.is("below(0, 2 to the 32, and 1): 33 bits", x.below(0, 4294967297L), 0);
        taken(x, 4);
        due.is("told(0, 1)", x.told(0, 1), 1);
        x = Places.atCorner(0);
        due.is("below(0, 2 to the 62, and 1): 63 bits", x.below(0, 4611686018427387905L), 0);
        taken(x, 4);
        due.is("told(0, 1)", x.told(0, 1), 1);
    }

    /** "again and again till they are less than the span; REJECTED becomes 1 more each time that they are not" */
    private static void notLessThanTheSpan() {
        DrawStreams x = Places.atCorner(0);
        due.is("below(0, 4294967295): like it, twice", x.below(0, ALL_32), 0);
        taken(x, 3);
        due.is("told(0, 1)", x.told(0, 1), 2);
        x = Places.atCorner(0);
        due.is("below(0, 4294967296): one less than it", x.below(0, 4294967296L), ALL_32);
        taken(x, 1);
        due.is("told(0, 1)", x.told(0, 1), 0);
        x = Places.atCorner(0);
        due.is("below(0, 3): 3, twice", x.below(0, 3), 0);
        taken(x, 3);
        due.is("told(0, 1)", x.told(0, 1), 2);
        x.place(0, Places.CORNER + 1);
        due.is("below(0, 5): 7 once", x.below(0, 5), 0);
        due.is("told(0, 1) goes on", x.told(0, 1), 3);
        x = Places.keyOfZero();
        x.place(0, Places.WORD_4294967294);
        due.is("below(0, 4294967295): one less than it", x.below(0, ALL_32), 4294967294L);
        due.is("told(0, 1)", x.told(0, 1), 0);
    }

    /** A span is any long above 0: of the greatest one only the 63 bits of 1 are rejected. */
    private static void theGreatestSpan() {
        DrawStreams x = Places.atCorner(0);
        due.is("below(0, greatest)", x.below(0, Long.MAX_VALUE), 0);
        taken(x, 4);
        due.is("told(0, 1)", x.told(0, 1), 1);
        x = Places.atCorner(1);
        due.is("below(0, greatest)", x.below(0, Long.MAX_VALUE), 9223372034707292160L);
        taken(x, 3);
        due.is("told(0, 1)", x.told(0, 1), 0);
        x = Places.atCorner(0);
        due.is("below(0, one less)", x.below(0, Long.MAX_VALUE - 1), 0);
        due.is("told(0, 1)", x.told(0, 1), 1);
    }

    /** A span of 1: 2 to the 0 is not less, so that no bits are taken. */
    private static void spanOfOne() {
        DrawStreams x = Places.atCorner(0);
        due.is("below(0, 1)", x.below(0, 1), 0);
        taken(x, 0);
        due.is("told(0, 1)", x.told(0, 1), 0);
        due.is("below(0, 2)", x.below(0, 2), 1);
        taken(x, 1);
    }

    /** "ArithmeticException: the span is 0 (nothing is taken)", BAD being told ahead of it. */
    private static void spanOfZero() {
        DrawStreams x = Places.atCorner(0);
        due.isText("below(0, 0)", Due.told(() -> x.below(0, 0)), "throws.ArithmeticException");
        taken(x, 0);
        due.is("told(0, 1)", x.told(0, 1), 0);
        for (int d : NO_DRAWERS) {
            due.isText("below(" + d + ", 0)", Due.told(() -> x.below(d, 0)), "-1");
        }
        due.is("below(0, 4)", x.below(0, 4), 3);
    }

    /** "BAD: DRAWER, a span below 0." */
    private static void spansBelowZero() {
        DrawStreams x = Places.atCorner(0);
        for (long span : new long[] {-1, -2, Long.MIN_VALUE}) {
            due.isText("below(0, " + span + ")", Due.told(() -> x.below(0, span)), "-1");
        }
        for (int d : NO_DRAWERS) {
            due.is("below(" + d + ", 1)", x.below(d, 1), -1);
            due.is("below(" + d + ", -1)", x.below(d, -1), -1);
        }
        taken(x, 0);
        due.is("told(0, 1)", x.told(0, 1), 0);
    }

    /** "BITS 53, by 2 to the 53. -1.0: no such DRAWER.": from 0 to just below 1, and nothing is made round. */
    private static void reals() {
        DrawStreams x = Places.atCorner(0);
        due.isReal("the greatest real", x.real(0), 0.99999999999999988897769753748);
        taken(x, 2);
        due.isReal("the least real", x.real(0), 0.0);
        taken(x, 4);
        x.place(0, Places.CORNER + 1);
        due.isReal("the first word alone", x.real(0), 0.999999999767169356346130371094);
        for (int d : NO_DRAWERS) {
            due.isReal("real(" + d + ")", x.real(d), -1.0);
        }
        taken(x, 3);
    }

    /** "BITS 24, by 2 to the 24. -1.0: no such DRAWER." */
    private static void singles() {
        DrawStreams x = Places.atCorner(1);
        due.isReal("the greatest single", x.single(0), 0.999999940395355224609375);
        taken(x, 2);
        due.isReal("the least single", x.single(0), 0.0);
        taken(x, 3);
        for (int d : NO_DRAWERS) {
            due.isReal("single(" + d + ")", x.single(d), -1.0);
        }
        taken(x, 3);
    }
}
