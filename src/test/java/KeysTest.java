/** Promises 1 (a new object), 2 (key), 3 (split), 4 (bitsOf), 5 (word), 26 (count). */
public final class KeysTest {
    private static final Due due = new Due();

    public static void main(String[] args) {
        newObject();
        keys();
        splits();
        words();
        counts();
        due.end();
    }

    private static void newObject() {
        DrawStreams x = new DrawStreams();
        for (int what = 0; what <= 2; what++) {
            due.is("new: count(" + what + ")", x.count(what), 0);
        }
        due.is("new: bitsOf(0)", x.bitsOf(0), -1);
        due.is("new: told(0, 0)", x.told(0, 0), -1);
        due.isText("new: at(0)", Due.told(() -> x.at(0)), "throws.ArrayIndexOutOfBoundsException");
        for (int i = 0; i < 32; i++) {
            due.is("new: weight(" + i + ", 0)", x.weight(i, 0), 0);
        }
        DrawStreams other = new DrawStreams();
        x.key(8);
        due.is("another object has keys of its own: count(0)", other.count(0), 0);
    }

    private static void keys() {
        DrawStreams x = new DrawStreams();
        long[] bits = {0, -1, Long.MIN_VALUE, Long.MAX_VALUE, 1L << 32, 5, 5};
        for (int i = 0; i < 16; i++) {
            due.is("key " + i, x.key(bits[i % bits.length]), i);
        }
        due.is("key 16", x.key(77), -2);
        due.is("split(0, 0) when full", x.split(0, 0), -2);
        due.is("split(16, 0) when full: the first told", x.split(16, 0), -1);
        due.is("count(0) when full", x.count(0), 16);
        for (int i = 0; i < 16; i++) {
            due.is("bitsOf(" + i + ")", x.bitsOf(i), bits[i % bits.length]);
        }
        for (int wrong : new int[] {-1, 16, Integer.MIN_VALUE, Integer.MAX_VALUE}) {
            due.is("bitsOf(" + wrong + ")", x.bitsOf(wrong), -1);
        }
    }

    private static void splits() {
        DrawStreams x = new DrawStreams();
        due.is("split(0, 0) without keys", x.split(0, 0), -1);
        x.key(1);
        due.is("split(1, 0)", x.split(1, 0), -1);
        due.is("split(-1, 0)", x.split(-1, 0), -1);
        due.is("count(0) after refusals", x.count(0), 1);
        int[] parts = {0, 1, 5, -1, Integer.MIN_VALUE, Integer.MAX_VALUE};
        for (int i = 0; i < parts.length; i++) {
            int[] four = Model.four(1, 0, 1, parts[i]);
            due.is("split(0, " + parts[i] + ")", x.split(0, parts[i]), i + 1);
            due.is("bitsOf(" + (i + 1) + ")", x.bitsOf(i + 1), (long) four[0] << 32 | four[1] & 0xFFFFFFFFL);
        }
        due.is("bitsOf(3)", x.bitsOf(3), 1008339455829626141L);
        due.is("bitsOf(4)", x.bitsOf(4), -1680450182562356984L);
        due.is("a split of a split: split(3, 5)", x.split(3, 5), 7);
        due.isTrue("it is another key than that of the first", x.bitsOf(7) != x.bitsOf(3));
        due.is("bitsOf(0) stays", x.bitsOf(0), 1);
    }

    private static void words() {
        DrawStreams x = new DrawStreams();
        x.key(0);
        x.key(-1);
        // The known answers of philox4x32-10 for a counter and a key of nothing but 0.
        long[] known = {0x6627e8d5L, 0xe169c58dL, 0xbc57ac4cL, 0x9b00dbd8L};
        for (int backwards = 3; backwards >= 0; backwards--) {
            due.is("word(0, 0, " + backwards + ")", x.word(0, 0, backwards), known[backwards]);
        }
        due.is("word(0, 0, 3) again", x.word(0, 0, 3), known[3]);
        long[] places = {0, 1, 2, 3, 4, 7, 1L << 34, (1L << 34) + 3, 1L << 61, Long.MAX_VALUE};
        for (int stream : new int[] {0, 1, Integer.MAX_VALUE}) {
            for (long i : places) {
                due.is("word(1, " + stream + ", " + i + ")", x.word(1, stream, i),
                        Model.four(-1, stream, 0, i / 4)[(int) (i % 4)] & 0xFFFFFFFFL);
            }
        }
        due.is("word(2, 0, 0)", x.word(2, 0, 0), -1);
        due.is("word(-1, 0, 0)", x.word(-1, 0, 0), -1);
        due.is("word(0, -1, 0)", x.word(0, -1, 0), -1);
        due.is("word(0, min, 0)", x.word(0, Integer.MIN_VALUE, 0), -1);
        due.is("word(0, 0, -1)", x.word(0, 0, -1), -1);
        due.is("word(0, 0, min)", x.word(0, 0, Long.MIN_VALUE), -1);
    }

    private static void counts() {
        DrawStreams x = new DrawStreams();
        x.key(3);
        x.split(0, 1);
        x.drawer(1, 0);
        x.drawer(0, 0);
        x.drawer(0, 0);
        x.permutation(2, 7);
        due.is("count(0)", x.count(0), 2);
        due.is("count(1)", x.count(1), 3);
        due.is("count(2)", x.count(2), 7);
        x.subset(0, 50, 9);
        due.is("count(2) after subset", x.count(2), 9);
        for (int wrong : new int[] {-1, 3, Integer.MIN_VALUE, Integer.MAX_VALUE}) {
            due.is("count(" + wrong + ")", x.count(wrong), -1);
        }
    }
}
