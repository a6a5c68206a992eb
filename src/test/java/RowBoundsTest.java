/**
 * The bounds of THE ROW, and of promises 19 to 21. The sums over long rows were reckoned by a program in another
 * language, from the document alone.
 */
public final class RowBoundsTest {
    private static final int LEAST = Integer.MIN_VALUE;
    private static final int MOST = Integer.MAX_VALUE;
    private static final int[] NO_DRAWERS = {LEAST, -1, 1, 12, MOST};
    private static final String NONE_SUCH = "throws.ArrayIndexOutOfBoundsException";
    private static final Due due = new Due();

    public static void main(String[] args) {
        emptyAtFirst();
        shortPermutations();
        longPermutations();
        permutationsBeyond();
        permutationsAtTheCorner();
        shortSubsets();
        longSubsets();
        subsetsBeyond();
        subsetsAtTheCorner();
        endsOfTheRow();
        theLatestRow();
        due.end();
    }

    /** Drawer 0 goes along stream 0 of key 11. */
    private static DrawStreams ofEleven() {
        DrawStreams x = new DrawStreams();
        x.key(11);
        x.drawer(0, 0);
        return x;
    }

    private static String row(DrawStreams x) {
        StringBuilder told = new StringBuilder();
        for (int i = 0; i < x.count(2); i++) {
            told.append(i == 0 ? "" : " ").append(x.at(i));
        }
        return told.toString();
    }

    private static long sum(DrawStreams x) {
        long sum = 0;
        for (int i = 0; i < x.count(2); i++) {
            sum = 31 * sum + x.at(i);
        }
        return sum;
    }

    private static void drawn(DrawStreams x, long words, long rejected) {
        due.is("told(0, 0)", x.told(0, 0), words);
        due.is("told(0, 1)", x.told(0, 1), rejected);
    }

    private static void permuted(DrawStreams x, int n, String want, long place, int rejected) {
        due.is("permutation(0, " + n + ")", x.permutation(0, n), n);
        due.isText("permutation(0, " + n + ")", row(x), want);
        drawn(x, place, rejected);
    }

    private static void chosen(DrawStreams x, int n, int m, String want, long place, int rejected) {
        due.is("subset(0, " + n + ", " + m + ")", x.subset(0, n, m), m);
        due.isText("subset(0, " + n + ", " + m + ")", row(x), want);
        drawn(x, place, rejected);
    }

    /** "THE ROW .. (at first it is empty)" */
    private static void emptyAtFirst() {
        DrawStreams x = ofEleven();
        due.is("count(2)", x.count(2), 0);
        for (int i : new int[] {LEAST, -1, 0, 1, 199, 200, MOST}) {
            due.isText("at(" + i + ")", Due.told(() -> x.at(i)), NONE_SUCH);
        }
    }

    /** "THE ROW is 0 .. n - 1 (n 0 .. 200), and for i from n - 1 down to 1 ..": none of these i for 0 and 1. */
    private static void shortPermutations() {
        permuted(ofEleven(), 0, "", 0, 0);
        permuted(ofEleven(), 1, "0", 0, 0);
        permuted(ofEleven(), 2, "0 1", 1, 0);
        permuted(ofEleven(), 3, "2 0 1", 4, 2);
    }

    private static void longPermutations() {
        DrawStreams x = ofEleven();
        due.is("permutation(0, 199)", x.permutation(0, 199), 199);
        due.is("count(2)", x.count(2), 199);
        due.is("at(0)", x.at(0), 3);
        due.is("at(198)", x.at(198), 90);
        drawn(x, 299, 101);
        x = ofEleven();
        due.is("permutation(0, 200)", x.permutation(0, 200), 200);
        due.is("count(2)", x.count(2), 200);
        due.is("sum", sum(x), 8043225376176278248L);
        drawn(x, 299, 100);
    }

    /** "BAD.": n is not 0 .. 200, no such DRAWER; and THE ROW stays. */
    private static void permutationsBeyond() {
        DrawStreams x = ofEleven();
        x.permutation(0, 3);
        for (int n : new int[] {LEAST, -1, 201, MOST}) {
            due.is("permutation(0, " + n + ")", x.permutation(0, n), -1);
        }
        for (int d : NO_DRAWERS) {
            due.is("permutation(" + d + ", 0)", x.permutation(d, 0), -1);
            due.is("permutation(" + d + ", 200)", x.permutation(d, 200), -1);
        }
        due.isText("the row stays", row(x), "2 0 1");
        drawn(x, 4, 2);
    }

    /** "changes places i and BELOW i + 1": with i itself, and with 0. */
    private static void permutationsAtTheCorner() {
        permuted(Places.atCorner(0), 2, "0 1", Places.CORNER + 1, 0);
        permuted(Places.atCorner(2), 2, "1 0", Places.CORNER + 3, 0);
        permuted(Places.atCorner(0), 3, "1 2 0", Places.CORNER + 4, 2);
        permuted(Places.atCorner(2), 3, "1 2 0", Places.CORNER + 4, 0);
    }

    /** "m of the numbers below n (0 .. 1000000)", "m (0 .. 200, n at most)": none, one, all of them. */
    private static void shortSubsets() {
        chosen(ofEleven(), 0, 0, "", 0, 0);
        chosen(ofEleven(), 1, 0, "", 0, 0);
        chosen(ofEleven(), 200, 0, "", 0, 0);
        chosen(ofEleven(), 1000000, 0, "", 0, 0);
        chosen(ofEleven(), 1, 1, "0", 0, 0);
        chosen(ofEleven(), 2, 1, "1", 1, 0);
        chosen(ofEleven(), 2, 2, "0 1", 1, 0);
        chosen(ofEleven(), 1000000, 1, "939574", 1, 0);
    }

    private static void longSubsets() {
        long[][] known = {{199, 199, 3125561040263102659L, 287, 89}, {200, 199, 3564785161482827843L, 288, 89},
            {200, 200, 4658671879608424548L, 288, 89}, {201, 200, -172124436289646363L, 289, 89},
            {202, 200, 4868271704575609764L, 290, 90}, {999999, 200, 7142215673588826136L, 206, 6},
            {1000000, 199, -1847753444628096818L, 205, 6}, {1000000, 200, 7142215673588826136L, 206, 6}};
        for (long[] k : known) {
            DrawStreams x = ofEleven();
            String call = "subset(0, " + k[0] + ", " + k[1] + ")";
            due.is(call, x.subset(0, (int) k[0], (int) k[1]), k[1]);
            due.is(call + ": count(2)", x.count(2), k[1]);
            due.is(call + ": sum", sum(x), k[2]);
            drawn(x, k[3], k[4]);
        }
    }

    /** "BAD.": n is not 0 .. 1000000, m not 0 .. 200 or more than n, no such DRAWER; and THE ROW stays. */
    private static void subsetsBeyond() {
        DrawStreams x = ofEleven();
        x.permutation(0, 3);
        int[][] wrong = {{-1, 0}, {-1, -1}, {LEAST, 0}, {LEAST, LEAST}, {1000001, 0}, {1000001, 1}, {MOST, 200}, {0, -1},
            {0, 1}, {1, 2}, {5, -1}, {5, 6}, {5, LEAST}, {5, MOST}, {199, 200}, {200, 201}, {201, 201}, {1000000, 201},
            {1000000, -1}, {1000000, 1000000}};
        for (int[] w : wrong) {
            due.is("subset(0, " + w[0] + ", " + w[1] + ")", x.subset(0, w[0], w[1]), -1);
        }
        for (int d : NO_DRAWERS) {
            due.is("subset(" + d + ", 0, 0)", x.subset(d, 0, 0), -1);
            due.is("subset(" + d + ", 5, 5)", x.subset(d, 5, 5), -1);
        }
        due.isText("the row stays", row(x), "2 0 1");
        drawn(x, 4, 2);
    }

    /** "t is BELOW j + 1; t comes into it, or, if that is there, j", "rising". */
    private static void subsetsAtTheCorner() {
        chosen(Places.atCorner(0), 65536, 1, "65535", Places.CORNER + 1, 0);
        chosen(Places.atCorner(2), 1000000, 1, "0", Places.CORNER + 3, 0);
        chosen(Places.atCorner(2), 1000000, 2, "0 999999", Places.CORNER + 4, 0);
        chosen(Places.atCorner(0), 65536, 2, "0 65535", Places.CORNER + 4, 2);
        chosen(Places.atCorner(1), 65537, 2, "0 65535", Places.CORNER + 3, 0);
    }

    /** "Number i of THE ROW. ArrayIndexOutOfBoundsException: none such." */
    private static void endsOfTheRow() {
        DrawStreams x = ofEleven();
        for (int n : new int[] {1, 2, 199, 200}) {
            x.permutation(0, n);
            for (int i : new int[] {LEAST, -1, n, n + 1, MOST}) {
                due.isText("at(" + i + ") of " + n, Due.told(() -> x.at(i)), NONE_SUCH);
            }
            for (int i : new int[] {0, n - 1}) {
                due.isTrue("at(" + i + ") of " + n, x.at(i) >= 0 && x.at(i) < n);
            }
        }
    }

    /** "THE ROW is what the latest permutation(), subset() made": a shorter one leaves nothing of the longer one. */
    private static void theLatestRow() {
        DrawStreams x = ofEleven();
        x.permutation(0, 200);
        x.place(0, 0);
        due.is("subset(0, 1000000, 1)", x.subset(0, 1000000, 1), 1);
        due.isText("at(0)", Due.told(() -> x.at(0)), "939574");
        due.isText("at(1)", Due.told(() -> x.at(1)), NONE_SUCH);
        due.isText("at(199)", Due.told(() -> x.at(199)), NONE_SUCH);
        x.place(0, 0);
        x.permutation(0, 3);
        due.isText("permutation(0, 3)", row(x), "2 0 1");
        due.is("permutation(0, 0)", x.permutation(0, 0), 0);
        due.is("count(2)", x.count(2), 0);
        due.isText("at(0)", Due.told(() -> x.at(0)), NONE_SUCH);
        x.permutation(0, 2);
        due.is("subset(0, 5, 0)", x.subset(0, 5, 0), 0);
        due.is("count(2)", x.count(2), 0);
        due.isText("at(0)", Due.told(() -> x.at(0)), NONE_SUCH);
    }
}
