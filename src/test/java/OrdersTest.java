/** Promises 24 (secret), 25 (back), within their bounds. */
public final class OrdersTest {
    private static final int MOST = 1073741824;
    private static final Due due = new Due();

    public static void main(String[] args) {
        smallOrders();
        greatOrders();
        due.end();
    }

    private static void smallOrders() {
        for (int n : new int[] {1, 2, 3, 4, 5, 10, 15, 16, 17, 63, 64, 65, 100, 256, 257}) {
            for (int stream : new int[] {0, 1, Integer.MAX_VALUE}) {
                wholeOrder(n, stream);
            }
        }
    }

    private static void wholeOrder(int n, int stream) {
        long key = 1000 - stream;
        Model m = new Model();
        m.key(key);
        boolean[] met = new boolean[n];
        DrawStreams x = null;
        for (int i = 0; i < n; i++) {
            if (i % 200 == 0) {
                x = new DrawStreams();
                x.key(key);
            }
            String of = "0, " + stream + ", " + n + ", ";
            int place = x.secret(0, stream, n, i);
            due.is("secret(" + of + i + ")", place, m.secret(0, stream, n, i));
            due.isTrue("place " + place + " is a new one", place >= 0 && place < n && !met[place]);
            met[place] = true;
            due.is("back(" + of + place + ")", x.back(0, stream, n, place), i);
        }
    }

    private static void greatOrders() {
        DrawStreams x = new DrawStreams();
        Model m = new Model();
        x.key(0x0123456789ABCDEFL);
        m.key(0x0123456789ABCDEFL);
        x.drawer(0, 0);
        int[] spans = {MOST, MOST - 1, (1 << 28) + 1, 1 << 28, 1000003, 65536, 65537};
        for (int n : spans) {
            for (int i : new int[] {0, 1, n / 2, n - 2, n - 1}) {
                int place = x.secret(0, 77, n, i);
                due.is("secret(0, 77, " + n + ", " + i + ")", place, m.secret(0, 77, n, i));
                due.is("back(0, 77, " + n + ", " + place + ")", x.back(0, 77, n, place), i);
                due.is("there again", x.secret(0, 77, n, x.back(0, 77, n, i)), i);
            }
        }
        due.is("no word is taken of a drawer", x.told(0, 0), 0);
    }
}
