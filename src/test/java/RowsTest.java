import java.util.ArrayList;
import java.util.Collections;
import java.util.List;
import java.util.TreeSet;

/** Promises 19 (permutation), 20 (subset), 21 (at), within their bounds. */
public final class RowsTest {
    private static final Due due = new Due();

    public static void main(String[] args) {
        permutations();
        subsets();
        due.end();
    }

    /** Drawer 1 goes beside drawer 0, to draw by below() what the other calls draw at once. */
    private static DrawStreams twoDrawers() {
        DrawStreams x = new DrawStreams();
        x.key(99);
        x.drawer(0, 3);
        x.drawer(0, 3);
        return x;
    }

    private static void rowIs(DrawStreams x, String call, List<Integer> want) {
        due.is(call + ": count(2)", x.count(2), want.size());
        List<String> got = new ArrayList<>();
        for (int i = 0; i < want.size(); i++) {
            int number = i;
            got.add(Due.told(() -> x.at(number)));
        }
        due.isText(call, got.toString(), want.toString());
    }

    private static void permutations() {
        for (int n : new int[] {0, 1, 2, 3, 6, 17, 128, 199, 200}) {
            DrawStreams x = twoDrawers();
            List<Integer> want = new ArrayList<>();
            for (int i = 0; i < n; i++) {
                want.add(i);
            }
            x.subset(0, 900, 200);
            x.place(0, 0);
            long rejected = x.told(0, 1);
            for (int i = n - 1; i >= 1; i--) {
                Collections.swap(want, i, (int) x.below(1, i + 1));
            }
            due.is("permutation(0, " + n + ")", x.permutation(0, n), n);
            rowIs(x, "permutation(0, " + n + ")", want);
            due.isTrue("as many words", x.same(0, 1));
            due.is("as many rejected", x.told(0, 1) - rejected, x.told(1, 1));
        }
    }

    private static void subsets() {
        int[][] sizes = {{0, 0}, {1, 0}, {1, 1}, {2, 1}, {10, 4}, {3, 3}, {200, 200}, {201, 200}, {260, 200},
            {1000000, 200}, {1000000, 1}, {1000000, 0}};
        for (int[] s : sizes) {
            DrawStreams x = twoDrawers();
            TreeSet<Integer> want = new TreeSet<>();
            for (int j = s[0] - s[1]; j < s[0]; j++) {
                int t = (int) x.below(1, j + 1);
                want.add(want.contains(t) ? j : t);
            }
            String call = "subset(0, " + s[0] + ", " + s[1] + ")";
            due.is(call, x.subset(0, s[0], s[1]), s[1]);
            rowIs(x, call, new ArrayList<>(want));
            due.isTrue("as many words", x.same(0, 1));
            due.is("as many rejected", x.told(0, 1), x.told(1, 1));
        }
    }
}
