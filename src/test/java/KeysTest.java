/** Promises 2 (key), 3 (split), 4 (bitsOf), 5 (word), 26 (count), within their bounds. */
public final class KeysTest {
    private static final Due due = new Due();

    public static void main(String[] args) {
        keys();
        splits();
        words();
        counts();
        due.end();
    }

    private static void keys() {
        DrawStreams x = new DrawStreams();
        DrawStreams other = new DrawStreams();
        long[] bits = {20261116, 0, -5, 1L << 40, -5};
        for (int i = 0; i < bits.length; i++) {
            due.is("key(" + bits[i] + ")", x.key(bits[i]), i);
        }
        for (int i = 0; i < bits.length; i++) {
            due.is("bitsOf(" + i + ")", x.bitsOf(i), bits[i]);
        }
        due.is("another object has keys of its own: count(0)", other.count(0), 0);
    }

    private static void splits() {
        DrawStreams x = new DrawStreams();
        x.key(1);
        int[] parts = {7, 1, 5, -1, -20261116, 1 << 20};
        for (int i = 0; i < parts.length; i++) {
            int[] four = Model.four(1, 0, 1, parts[i]);
            due.is("split(0, " + parts[i] + ")", x.split(0, parts[i]), i + 1);
            due.is("bitsOf(" + (i + 1) + ")", x.bitsOf(i + 1), (long) four[0] << 32 | four[1] & 0xFFFFFFFFL);
        }
        due.is("bitsOf(3)", x.bitsOf(3), 1008339455829626141L);
        due.is("bitsOf(4)", x.bitsOf(4), -1680450182562356984L);
        due.is("a split of a split: split(3, 5)", x.split(3, 5), 7);
        due.isTrue("it is another key than that of the first", x.bitsOf(7) != x.bitsOf(3));
        due.is("bitsOf(0) stays", x.bitsOf(0), 1);
    }

    private static void words() {
        DrawStreams x = new DrawStreams();
        x.key(0);
        x.key(-1);
        // The known answers of philox4x32-10 for a counter and a key of nothing but 0.
        long[] known = {0x6627e8d5L, 0xe169c58dL, 0xbc57ac4cL, 0x9b00dbd8L};
        for (int backwards = 3; backwards >= 0; backwards--) {
            due.is("word(0, 0, " + backwards + ")", x.word(0, 0, backwards), known[backwards]);
        }
        due.is("word(0, 0, 3) again", x.word(0, 0, 3), known[3]);
        long[] places = {0, 1, 2, 3, 4, 7, 1L << 34, (1L << 34) + 3, 1L << 61, Long.MAX_VALUE};
        for (int stream : new int[] {0, 1, Integer.MAX_VALUE}) {
            for (long i : places) {
                due.is("word(1, " + stream + ", " + i + ")", x.word(1, stream, i),
                        Model.four(-1, stream, 0, i / 4)[(int) (i % 4)] & 0xFFFFFFFFL);
            }
        }
    }

    private static void counts() {
        DrawStreams x = new DrawStreams();
        x.key(3);
        x.split(0, 1);
        x.drawer(1, 0);
        x.drawer(0, 0);
        x.drawer(0, 0);
        x.permutation(2, 7);
        due.is("count(0)", x.count(0), 2);
        due.is("count(1)", x.count(1), 3);
        due.is("count(2)", x.count(2), 7);
        x.subset(0, 50, 9);
        due.is("count(2) after subset", x.count(2), 9);
    }
}
