/** Places that were looked for (some 2 to the 36 words were gone through) for the rare words that stand there. */
final class Places {
    /** Of stream 0 of key 0: where these words stand. */
    static final long WORD_0 = 5992377491L;
    static final long WORD_1 = 11600211447L;
    static final long WORD_2 = 3304761632L;
    static final long WORD_3 = 9900129647L;
    static final long BELOW_MIDDLE = 4934972786L;
    static final long MIDDLE = 2592375475L;
    static final long ABOVE_MIDDLE = 1819059L;
    static final long WORD_4294967292 = 2619376062L;
    static final long WORD_4294967293 = 1453024970L;
    static final long WORD_4294967294 = 1117418819L;
    static final long WORD_4294967295 = 6153212237L;

    /** At this place of this stream of this key the words are 4294967295, 4294967295, 0, 0. */
    static final long CORNER_KEY = 432397149869L;
    static final int CORNER_STREAM = 1802526356;
    static final long CORNER = 1568055703199142388L;

    private Places() {
    }

    static DrawStreams withKeys(long... keys) {
        DrawStreams x = new DrawStreams();
        for (long key : keys) {
            x.key(key);
        }
        return x;
    }

    /** Key 0 of it is 0; drawer 0 goes along stream 0. */
    static DrawStreams keyOfZero() {
        DrawStreams x = new DrawStreams();
        x.key(0);
        x.drawer(0, 0);
        return x;
    }

    /** Drawer 0 stands so far behind the corner. */
    static DrawStreams atCorner(int behind) {
        DrawStreams x = new DrawStreams();
        x.key(CORNER_KEY);
        x.drawer(0, CORNER_STREAM);
        x.place(0, CORNER + behind);
        return x;
    }
}
