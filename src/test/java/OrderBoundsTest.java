/**
 * The bounds of a SECRET ORDER, and of promises 24 and 25. The places that are written out were reckoned by a
 * program in another language, from the document alone.
 */
public final class OrderBoundsTest {
    private static final int LEAST = Integer.MIN_VALUE;
    private static final int MOST = Integer.MAX_VALUE;
    private static final int MOST_ORDER = 1073741824;
    private static final Due due = new Due();

    public static void main(String[] args) {
        partsGrowAtPowersOfFour();
        anOrderOfOne();
        wholeOrders();
        streams();
        spansBeyond();
        numbersBeyond();
        keysBeyond();
        due.end();
    }

    private static void thereAndBack(DrawStreams x, int stream, int n, int i, int place) {
        String of = "(0, " + stream + ", " + n + ", ";
        due.is("secret" + of + i + ")", x.secret(0, stream, n, i), place);
        due.is("back" + of + place + ")", x.back(0, stream, n, place), i);
    }

    /** "m is the least with 4 to the m not less than n (1 at least)": each power of 4, one less and one more. */
    private static void partsGrowAtPowersOfFour() {
        int[][] known = {{1, 0, 0}, {2, 1, 0}, {3, 2, 1}, {4, 2, 1}, {5, 2, 1}, {15, 7, 1}, {16, 7, 14}, {17, 6, 16},
            {63, 6, 34}, {64, 6, 39}, {65, 40, 42}, {255, 120, 155}, {256, 120, 35}, {257, 54, 85}, {1023, 637, 414},
            {1024, 637, 337}, {1025, 554, 902}, {4095, 554, 1577}, {4096, 554, 1591}, {4097, 2617, 3116},
            {16383, 11013, 849}, {16384, 11013, 390}, {16385, 11704, 743}, {65535, 30774, 16395}, {65536, 30774, 50580},
            {65537, 8858, 6705}, {262143, 112474, 89628}, {262144, 112474, 48193}, {262145, 17922, 24365},
            {1048575, 343362, 645090}, {1048576, 343362, 91564}, {1048577, 469020, 442450}, {4194303, 4190903, 639616},
            {4194304, 4190903, 1950506}, {4194305, 387496, 3645216}, {16777215, 14606273, 4889665},
            {16777216, 14606273, 5381118}, {16777217, 10278821, 12872830}, {67108863, 26662912, 46914776},
            {67108864, 26662912, 4248106}, {67108865, 18563313, 25522945}, {268435455, 212659349, 138152198},
            {268435456, 212659349, 118702041}, {268435457, 64727053, 116984038}, {1073741823, 962177833, 493328838},
            {MOST_ORDER, 962177833, 627153342}};
        DrawStreams x = Places.withKeys(7);
        for (int[] k : known) {
            thereAndBack(x, 3, k[0], 0, k[1]);
            thereAndBack(x, 3, k[0], k[0] - 1, k[2]);
        }
    }

    /** An order of 1 has parts of 1 bit all the same, and walks on till it is 0, whatever the key and stream. */
    private static void anOrderOfOne() {
        for (long key : new long[] {0, 1, -1, Long.MIN_VALUE, Long.MAX_VALUE}) {
            DrawStreams x = Places.withKeys(key);
            for (int stream = 0; stream < 40; stream++) {
                thereAndBack(x, stream, 1, 0, 0);
            }
            thereAndBack(x, MOST, 1, 0, 0);
        }
    }

    /** "it is WALKED, and again, till it is less than n": each number has one place, each place one number. */
    private static void wholeOrders() {
        for (int n = 1; n <= 80; n++) {
            DrawStreams x = Places.withKeys(n * 0x123456789ABCDEFL);
            boolean[] met = new boolean[n];
            for (int i = 0; i < n; i++) {
                int place = x.secret(0, n, n, i);
                due.isTrue("secret(0, " + n + ", " + n + ", " + i + ") is new: " + place,
                        place >= 0 && place < n && !met[place]);
                met[Math.floorMod(place, n)] = true;
                due.is("back(0, " + n + ", " + n + ", " + place + ")", x.back(0, n, n, place), i);
            }
        }
    }

    /** "a STREAM (0 .. 2147483647)" */
    private static void streams() {
        int[][] known = {{0, 0, 8, 5, 6, 4, 2, 9, 7, 1, 3}, {MOST - 1, 1, 4, 2, 8, 7, 6, 9, 3, 5, 0},
            {MOST, 5, 7, 3, 0, 9, 4, 6, 1, 8, 2}};
        DrawStreams x = Places.withKeys(7);
        for (int[] k : known) {
            for (int i = 0; i < 10; i++) {
                thereAndBack(x, k[0], 10, i, k[i + 1]);
            }
        }
        thereAndBack(x, MOST, MOST_ORDER, 0, 1003629265);
        thereAndBack(x, MOST, MOST_ORDER, MOST_ORDER - 1, 485899065);
        for (int stream : new int[] {LEAST, -1}) {
            refused(x, 0, stream, 10, 0);
        }
    }

    private static void refused(DrawStreams x, int key, int stream, int n, int i) {
        String of = "(" + key + ", " + stream + ", " + n + ", " + i + ")";
        due.is("secret" + of, x.secret(key, stream, n, i), -1);
        due.is("back" + of, x.back(key, stream, n, i), -1);
    }

    /** "A SECRET ORDER of n (1 .. 1073741824)" */
    private static void spansBeyond() {
        DrawStreams x = Places.withKeys(7);
        for (int n : new int[] {LEAST, -1, 0, MOST_ORDER + 1, MOST}) {
            for (int i : new int[] {LEAST, -1, 0, 1}) {
                refused(x, 0, 0, n, i);
            }
        }
        refused(x, 0, 0, MOST_ORDER + 1, MOST_ORDER);
        refused(x, 0, 0, -1, -2);
    }

    /** "BAD: also i not 0 .. n - 1." and "BAD likewise." */
    private static void numbersBeyond() {
        DrawStreams x = Places.withKeys(7);
        for (int n : new int[] {1, 2, 10, 16, MOST_ORDER - 1, MOST_ORDER}) {
            for (int i : new int[] {LEAST, -1, n, n + 1, MOST}) {
                refused(x, 0, 0, n, i);
            }
        }
    }

    /** "BAD (no such KEY ..": and the bits of a KEY tell from end to end. */
    private static void keysBeyond() {
        DrawStreams none = Places.withKeys();
        refused(none, 0, 0, 10, 0);
        DrawStreams x = Places.withKeys(-1, Long.MIN_VALUE);
        for (int key : new int[] {LEAST, -1, 2, 16, MOST}) {
            refused(x, key, 0, 10, 0);
        }
        int[][] known = {{7, 5, 2, 8, 3, 1, 4, 9, 6, 0}, {7, 9, 1, 4, 0, 3, 5, 2, 8, 6}};
        for (int key = 0; key < 2; key++) {
            for (int i = 0; i < 10; i++) {
                due.is("secret(" + key + ", 0, 10, " + i + ")", x.secret(key, 0, 10, i), known[key][i]);
                due.is("back(" + key + ", 0, 10, " + known[key][i] + ")", x.back(key, 0, 10, known[key][i]), i);
            }
        }
    }
}
