/** Promises 6 (drawer), 7 (place), 8 (told), 9 (same), within their bounds. */
public final class DrawersTest {
    private static final Due due = new Due();

    public static void main(String[] args) {
        made();
        places();
        rejected();
        alike();
        due.end();
    }

    private static void made() {
        DrawStreams x = new DrawStreams();
        x.key(4);
        x.key(6);
        for (int d = 0; d < 12; d++) {
            due.is("drawer " + d, x.drawer(d % 2, Integer.MAX_VALUE - d), d);
        }
        due.is("count(1)", x.count(1), 12);
        for (int d = 0; d < 12; d++) {
            due.is("told(" + d + ", 0)", x.told(d, 0), 0);
            due.is("told(" + d + ", 1)", x.told(d, 1), 0);
            due.is("told(" + d + ", 2)", x.told(d, 2), d % 2);
            due.is("told(" + d + ", 3)", x.told(d, 3), Integer.MAX_VALUE - d);
        }
    }

    private static void places() {
        DrawStreams x = threeDrawers();
        for (long place : new long[] {5, 0, 4294967296L, 1L << 60}) {
            due.is("place(1, " + place + ")", x.place(1, place), 1);
            due.is("told(1, 0)", x.told(1, 0), place);
            due.is("bits(1, 32)", x.bits(1, 32), x.word(0, 9, place));
            due.is("told(1, 0) behind a word", x.told(1, 0), place + 1);
        }
        due.is("the others stay: told(0, 0)", x.told(0, 0), 0);
    }

    private static void rejected() {
        DrawStreams x = threeDrawers();
        long hit = 0;
        long words = 0;
        for (int i = 0; i < 100; i++) {
            x.below(0, 129);
        }
        for (long p = 0; hit < 100; p++) {
            words++;
            hit += x.word(0, 9, p) >>> 24 < 129 ? 1 : 0;
        }
        due.is("told(0, 0)", x.told(0, 0), words);
        due.is("told(0, 1)", x.told(0, 1), words - 100);
        due.isTrue("some were rejected", words > 150);
        due.is("of another drawer", x.told(1, 1), 0);
        x.place(0, 0);
        due.is("place() leaves it", x.told(0, 1), words - 100);
        x.below(0, 128);
        due.is("and a power of two", x.told(0, 1), words - 100);
    }

    private static void alike() {
        DrawStreams x = new DrawStreams();
        x.key(7);
        x.key(7);
        x.key(8);
        x.drawer(0, 1);
        x.drawer(1, 1);
        x.drawer(2, 1);
        x.drawer(0, 2);
        due.isTrue("same(0, 0)", x.same(0, 0));
        due.isTrue("same(0, 1): two keys of like bits", x.same(0, 1));
        due.isTrue("same(1, 0)", x.same(1, 0));
        due.isTrue("same(0, 2): other keys", !x.same(0, 2));
        due.isTrue("same(0, 3): other streams", !x.same(0, 3));
        x.bits(0, 8);
        due.isTrue("same(0, 1): other places", !x.same(0, 1));
        x.below(1, 1L << 20);
        due.isTrue("same(0, 1): places are alike again", x.same(0, 1));
        long before = x.told(0, 1);
        for (int i = 0; i < 40 && x.told(0, 1) == before; i++) {
            x.below(0, 129);
        }
        x.place(1, x.told(0, 0));
        due.isTrue("rejected ones do not count", x.told(0, 1) != x.told(1, 1) && x.same(0, 1));
    }

    private static DrawStreams threeDrawers() {
        DrawStreams x = new DrawStreams();
        x.key(31);
        for (int i = 0; i < 3; i++) {
            x.drawer(0, 9);
        }
        return x;
    }
}
