/** Promise 18 (normal), beside the model and by its spread. */
public final class NormalTest {
    /** Places of stream 0 of key 0 whose word is like the next one: deviates that go on to digit 1. */
    private static final long[] LIKE_THE_NEXT = {
        6979670754L, 7749036617L, 8230648364L, 8360374027L, 13113113901L, 20183980242L, 22829060014L,
        28333442333L, 40090953477L, 48284953842L, 49038536521L, 51749772715L, 56198343860L, 61266416862L,
        62076352004L, 63793437189L, 65171088600L, 65217308417L, 67324497385L, 68347887472L, 70178097399L};
    /** Places there whose word is 2147483648 itself: as digit 0 it makes HALF true at once. */
    private static final long[] AT_THE_MIDDLE = {
        2592375475L, 8191531328L, 11972648663L, 12813606598L, 13235610374L, 22962888082L, 27732704406L};
    private static final Due due = new Due();

    public static void main(String[] args) {
        likeTheModel();
        likeDigits();
        likeDigitsByHand();
        digitsAtTheMiddle();
        spread();
        due.end();
    }

    private static void likeTheModel() {
        for (int stream = 0; stream < 100; stream++) {
            DrawStreams x = new DrawStreams();
            Model m = new Model();
            x.key(stream * 0x123456789ABCDEFL);
            m.key(stream * 0x123456789ABCDEFL);
            x.drawer(0, stream);
            m.drawer(0, stream);
            for (int i = 0; i < 150; i++) {
                due.is("normal(0) " + i + " of stream " + stream, x.normal(0), m.normal(0));
            }
            due.is("told(0, 0)", x.told(0, 0), m.told(0, 0));
            due.is("told(0, 1)", x.told(0, 1), m.told(0, 1));
            due.isTrue("some were rejected", x.told(0, 1) > 0);
        }
    }

    private static void likeDigits() {
        for (long like : LIKE_THE_NEXT) {
            DrawStreams x = Places.keyOfZero();
            due.is("word " + like + " and the next one", x.word(0, 0, like), x.word(0, 0, like + 1));
            likeTheModelFrom(x, like - 40, like + 1);
        }
    }

    private static void digitsAtTheMiddle() {
        for (long middle : AT_THE_MIDDLE) {
            DrawStreams x = Places.keyOfZero();
            due.is("word " + middle, x.word(0, 0, middle), 2147483648L);
            likeTheModelFrom(x, middle - 20, middle);
        }
    }

    private static void likeTheModelFrom(DrawStreams x, long first, long last) {
        Model m = new Model();
        m.key(0);
        m.drawer(0, 0);
        for (long place = first; place <= last; place++) {
            x.place(0, place);
            m.place(0, place);
            due.is("normal(0) at " + place, x.normal(0), m.normal(0));
            due.is("told(0, 0)", x.told(0, 0), m.told(0, 0));
        }
    }

    /**
     * HALF is false by the first two words of these places, so that k is 0; z and x have like digits 0, and
     * their digits 1, z's ahead of x's, tell that z is not LESS: x stands, and the next word is its sign.
     */
    private static void likeDigitsByHand() {
        DrawStreams x = Places.keyOfZero();
        int met = 0;
        for (long like : LIKE_THE_NEXT) {
            long p = like - 2;
            boolean noHalf = x.word(0, 0, p) < 1L << 31 && x.word(0, 0, p + 1) > x.word(0, 0, p);
            if (noHalf && x.word(0, 0, p + 4) > x.word(0, 0, p + 5)) {
                met++;
                x.place(0, p);
                long size = x.word(0, 0, p + 3);
                due.is("normal(0) at " + p, x.normal(0), x.word(0, 0, p + 6) >= 1L << 31 ? -size : size);
                due.is("told(0, 0)", x.told(0, 0), p + 7);
            }
        }
        due.isTrue("such a place was met", met > 0);
    }

    private static void spread() {
        int many = 0;
        int above = 0;
        double sum = 0;
        double squares = 0;
        for (int key = 0; key < 100; key++) {
            DrawStreams x = new DrawStreams();
            x.key(key);
            x.drawer(0, 1);
            for (int i = 0; i < 500; i++) {
                double v = x.normal(0) * 0x1p-32;
                many++;
                sum += v;
                squares += v * v;
                above += Math.abs(v) > 2 ? 1 : 0;
            }
        }
        due.isTrue("the mean is 0: " + sum / many, Math.abs(sum / many) < 0.02);
        due.isTrue("the variance is 1: " + squares / many, Math.abs(squares / many - 1) < 0.03);
        due.isTrue("4.55 in 100 are beyond 2: " + above, Math.abs(above / (double) many - 0.0455) < 0.004);
    }
}
