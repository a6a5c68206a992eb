/** The bounds of DRAWERS and PLACES, and of promises 6 to 9. */
public final class DrawerBoundsTest {
    private static final int MOST = Integer.MAX_VALUE;
    private static final long MOST_PLACE = 2305843009213693952L;
    private static final Due due = new Due();

    public static void main(String[] args) {
        twelveDrawersAtMost();
        badAheadOfFull();
        atPlaceZero();
        streams();
        placesAtTheEnds();
        aWordAtTheLastPlace();
        whatIsTold();
        rejectedAreOnesOwn();
        alike();
        notAlike();
        noSuchOnesAreNotAlike();
        due.end();
    }

    /** "DRAWERS, 12 at most, numbered from 0" */
    private static void twelveDrawersAtMost() {
        DrawStreams x = Places.withKeys(11);
        for (int d = 0; d < 12; d++) {
            due.is("count(1)", x.count(1), d);
            due.is("told(" + d + ", 0) ahead of it", x.told(d, 0), -1);
            due.is("drawer " + d, x.drawer(0, d), d);
            due.is("told(" + d + ", 3)", x.told(d, 3), d);
        }
        due.is("drawer 12", x.drawer(0, 0), -2);
        due.is("drawer 12 again", x.drawer(0, 0), -2);
        due.is("count(1)", x.count(1), 12);
        due.is("told(11, 0)", x.told(11, 0), 0);
        due.is("told(12, 0)", x.told(12, 0), -1);
        due.is("told(-1, 0)", x.told(-1, 0), -1);
        due.is("bits(11, 32): the last one draws", x.bits(11, 32), x.word(0, 11, 0));
        due.is("bits(12, 32)", x.bits(12, 32), -1);
    }

    /** "of several the first told: BAD .., FULL" and "A DRAWER at PLACE 0: its number. BAD, FULL." */
    private static void badAheadOfFull() {
        DrawStreams x = Places.withKeys(11);
        due.is("drawer(-1, 0)", x.drawer(-1, 0), -1);
        due.is("drawer(1, 0)", x.drawer(1, 0), -1);
        due.is("drawer(0, -1)", x.drawer(0, -1), -1);
        due.is("count(1)", x.count(1), 0);
        for (int d = 0; d < 12; d++) {
            x.drawer(0, 0);
        }
        due.is("full: drawer(-1, 0)", x.drawer(-1, 0), -1);
        due.is("full: drawer(1, 0)", x.drawer(1, 0), -1);
        due.is("full: drawer(0, -1)", x.drawer(0, -1), -1);
        due.is("full: drawer(0, 2147483647)", x.drawer(0, MOST), -2);
    }

    /** "A DRAWER at PLACE 0", wherever others along the same STREAM are. */
    private static void atPlaceZero() {
        DrawStreams x = Places.withKeys(11);
        x.drawer(0, 0);
        x.bits(0, 64);
        x.drawer(0, 0);
        due.is("told(0, 0)", x.told(0, 0), 2);
        due.is("told(1, 0)", x.told(1, 0), 0);
        due.is("told(1, 1)", x.told(1, 1), 0);
        due.is("bits(1, 32)", x.bits(1, 32), 3848496742L);
    }

    /** "a STREAM (0 .. 2147483647)" */
    private static void streams() {
        DrawStreams x = Places.withKeys(11);
        due.is("drawer(0, -1)", x.drawer(0, -1), -1);
        due.is("drawer(0, least)", x.drawer(0, Integer.MIN_VALUE), -1);
        due.is("drawer(0, 0)", x.drawer(0, 0), 0);
        due.is("drawer(0, 2147483647)", x.drawer(0, MOST), 1);
        due.is("told(1, 3)", x.told(1, 3), MOST);
        due.is("bits(1, 32)", x.bits(1, 32), 1356275866L);
    }

    /** "from a PLACE on (0 .. 2 to the 61)" and "A DRAWER's PLACE is another one from now on: 1. BAD." */
    private static void placesAtTheEnds() {
        DrawStreams x = Places.withKeys(11);
        x.drawer(0, 0);
        due.is("place(0, 2 to the 61)", x.place(0, MOST_PLACE), 1);
        due.is("told(0, 0)", x.told(0, 0), MOST_PLACE);
        due.is("place(0, 2 to the 61, and 1)", x.place(0, MOST_PLACE + 1), -1);
        due.is("place(0, the greatest)", x.place(0, Long.MAX_VALUE), -1);
        due.is("told(0, 0) after that", x.told(0, 0), MOST_PLACE);
        due.is("place(0, 0)", x.place(0, 0), 1);
        due.is("told(0, 0)", x.told(0, 0), 0);
        due.is("place(0, -1)", x.place(0, -1), -1);
        due.is("place(0, the least)", x.place(0, Long.MIN_VALUE), -1);
        due.is("told(0, 0) after that", x.told(0, 0), 0);
        due.is("place(1, 0)", x.place(1, 0), -1);
        due.is("place(-1, 0)", x.place(-1, 0), -1);
        due.is("bits(0, 32) goes on from 0", x.bits(0, 32), 3848496742L);
    }

    /** "to take a WORD is to have that at the PLACE, which becomes 1 more", at the ends too. */
    private static void aWordAtTheLastPlace() {
        DrawStreams x = Places.withKeys(11);
        x.drawer(0, 0);
        x.place(0, MOST_PLACE - 1);
        due.is("bits(0, 32) at 2 to the 61, less 1", x.bits(0, 32), 483096119L);
        due.is("told(0, 0)", x.told(0, 0), MOST_PLACE);
        due.is("bits(0, 32) at 2 to the 61", x.bits(0, 32), 1094403631L);
        due.is("told(0, 0)", x.told(0, 0), MOST_PLACE + 1);
        due.is("bits(0, 32) beyond it", x.bits(0, 32), 1092999162L);
        due.is("told(0, 0)", x.told(0, 0), MOST_PLACE + 2);
        due.is("place(0, there) is refused all the same", x.place(0, MOST_PLACE + 2), -1);
        x.place(0, 17179869183L);
        due.is("bits(0, 64) where b goes over to its highest bits", x.bits(0, 64), 2473585213L << 32 | 1258644030L);
    }

    /** "0 its PLACE, 1 REJECTED, 2 its KEY, 3 its STREAM. BAD." */
    private static void whatIsTold() {
        DrawStreams x = Places.withKeys(5, 6);
        x.drawer(1, 70);
        x.place(0, 800);
        due.is("told(0, -1)", x.told(0, -1), -1);
        due.is("told(0, 0)", x.told(0, 0), 800);
        due.is("told(0, 1)", x.told(0, 1), 0);
        due.is("told(0, 2)", x.told(0, 2), 1);
        due.is("told(0, 3)", x.told(0, 3), 70);
        due.is("told(0, 4)", x.told(0, 4), -1);
        due.is("told(0, least)", x.told(0, Integer.MIN_VALUE), -1);
        due.is("told(0, most)", x.told(0, MOST), -1);
        for (int what = 0; what <= 3; what++) {
            due.is("told(1, " + what + ")", x.told(1, what), -1);
            due.is("told(-1, " + what + ")", x.told(-1, what), -1);
        }
    }

    /** "REJECTED counts as told": 0 at first, for each DRAWER by itself, and another PLACE leaves it. */
    private static void rejectedAreOnesOwn() {
        DrawStreams x = Places.keyOfZero();
        x.drawer(0, 0);
        x.place(0, Places.WORD_4294967295);
        due.is("told(0, 1)", x.told(0, 1), 0);
        x.below(0, 4294967295L);
        due.is("told(0, 1): the span itself is rejected", x.told(0, 1), 1);
        due.is("told(1, 1)", x.told(1, 1), 0);
        x.place(0, 0);
        due.is("told(0, 1) after place()", x.told(0, 1), 1);
        due.is("place(0, -1)", x.place(0, -1), -1);
        due.is("told(0, 1) after a refusal", x.told(0, 1), 1);
        due.isTrue("same(0, 1): it does not tell how they go on", x.same(0, 1));
    }

    /** "like KEYS (by their bits), STREAMS, PLACES" */
    private static void alike() {
        DrawStreams x = Places.withKeys(7, 7, 1, 1008339455829626141L);
        x.split(2, 5);
        x.drawer(0, MOST);
        x.drawer(1, MOST);
        x.drawer(3, 0);
        x.drawer(4, 0);
        due.isTrue("same(0, 0)", x.same(0, 0));
        due.isTrue("same(0, 1): keys of two numbers, of like bits", x.same(0, 1));
        due.isTrue("same(2, 3): one of them by split()", x.same(2, 3));
        x.place(0, MOST_PLACE);
        x.place(1, MOST_PLACE);
        due.isTrue("same(0, 1) at the last place", x.same(0, 1));
    }

    /** Each of the three by itself makes them differ, by one bit at either end. */
    private static void notAlike() {
        DrawStreams x = Places.withKeys(0, 1, Long.MIN_VALUE, 4294967296L);
        x.drawer(0, 0);
        for (int key = 1; key <= 3; key++) {
            due.isTrue("other keys", !x.same(0, x.drawer(key, 0)));
        }
        due.isTrue("other streams", !x.same(0, x.drawer(0, 1)));
        due.isTrue("other streams", !x.same(0, x.drawer(0, MOST)));
        int e = x.drawer(0, 0);
        due.isTrue("alike so far", x.same(0, e));
        for (long place : new long[] {1, 4294967296L, MOST_PLACE}) {
            x.place(e, place);
            due.isTrue("other places: " + place, !x.same(0, e) && !x.same(e, 0));
        }
    }

    /** "False also: no such ones." */
    private static void noSuchOnesAreNotAlike() {
        DrawStreams x = Places.withKeys(0);
        due.isTrue("same(0, 0) without drawers", !x.same(0, 0));
        x.drawer(0, 0);
        for (int d : new int[] {-1, 1, 11, 12, Integer.MIN_VALUE, MOST}) {
            due.isTrue("same(0, " + d + ")", !x.same(0, d));
            due.isTrue("same(" + d + ", 0)", !x.same(d, 0));
            due.isTrue("same(" + d + ", " + d + ")", !x.same(d, d));
        }
        due.isTrue("same(0, 0)", x.same(0, 0));
    }
}
