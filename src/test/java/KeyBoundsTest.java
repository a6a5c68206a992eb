/**
 * The bounds of KEYS, WORDS and STREAMS, and of promises 1 to 5 and 26. The numbers that are written out were
 * reckoned by a program in another language, from the document alone.
 */
public final class KeyBoundsTest {
    private static final int MOST = Integer.MAX_VALUE;
    private static final Due due = new Due();

    public static void main(String[] args) {
        nothingAtFirst();
        sixteenKeysAtMost();
        keysAndSplitsShareTheRoom();
        keysAre64Bits();
        roundKeysWrapAround();
        wordsOfAllSizes();
        streamsAndPlacesOfWords();
        fourWordsToANumber();
        partsOfAllSizes();
        bitsMayLookBad();
        whatIsCounted();
        theLastCallOfAll();
        due.end();
    }

    /** "No KEYS, DRAWERS, weights." and "THE ROW .. (at first it is empty)". */
    private static void nothingAtFirst() {
        DrawStreams x = new DrawStreams();
        due.is("new: count(0)", x.count(0), 0);
        due.is("new: count(1)", x.count(1), 0);
        due.is("new: count(2)", x.count(2), 0);
        due.is("new: bitsOf(0)", x.bitsOf(0), -1);
        due.is("new: told(0, 0)", x.told(0, 0), -1);
        due.isText("new: at(0)", Due.told(() -> x.at(0)), "throws.ArrayIndexOutOfBoundsException");
        for (int i = 0; i < 32; i++) {
            due.is("new: weight(" + i + ", 1)", x.weight(i, 1), 0);
        }
        due.is("the first key", x.key(3), 0);
        due.is("the first drawer", x.drawer(0, 0), 0);
        due.is("another new object: count(0)", new DrawStreams().count(0), 0);
    }

    /** "KEYS, 16 at most, numbered from 0" and "A KEY: its number. FULL." */
    private static void sixteenKeysAtMost() {
        DrawStreams x = new DrawStreams();
        for (int i = 0; i < 16; i++) {
            due.is("count(0)", x.count(0), i);
            due.is("bitsOf(" + i + ") ahead of it", x.bitsOf(i), -1);
            due.is("key " + i, x.key(100 - i), i);
        }
        due.is("key 16", x.key(1), -2);
        due.is("key 16 again", x.key(1), -2);
        due.is("count(0)", x.count(0), 16);
        for (int i = 0; i < 16; i++) {
            due.is("bitsOf(" + i + ")", x.bitsOf(i), 100 - i);
        }
        due.is("bitsOf(-1)", x.bitsOf(-1), -1);
        due.is("bitsOf(16)", x.bitsOf(16), -1);
        due.isTrue("the last key has words", x.word(15, 0, 0) >= 0);
        due.is("word(16, 0, 0)", x.word(16, 0, 0), -1);
    }

    /** "A KEY that comes of another one: .. its number. BAD: KEY; FULL." */
    private static void keysAndSplitsShareTheRoom() {
        DrawStreams x = new DrawStreams();
        due.is("split(0, 0) without keys", x.split(0, 0), -1);
        x.key(1);
        due.is("split(-1, 0)", x.split(-1, 0), -1);
        due.is("split(1, 0)", x.split(1, 0), -1);
        for (int i = 1; i < 16; i++) {
            due.is("split(" + (i - 1) + ", " + i + ")", x.split(i - 1, i), i);
        }
        due.is("split(15, 0): full", x.split(15, 0), -2);
        due.is("key(0): full", x.key(0), -2);
        due.is("split(16, 0): BAD is told ahead of FULL", x.split(16, 0), -1);
        due.is("split(-1, 0): BAD is told ahead of FULL", x.split(-1, 0), -1);
        due.is("count(0)", x.count(0), 16);
    }

    /** "KEYS .. are 64 bits": each of them is kept, and each of them tells in the WORDS. */
    private static void keysAre64Bits() {
        long plain = 1713891541L;
        for (int from = 0; from < 64; from += 16) {
            DrawStreams x = new DrawStreams();
            for (int i = 0; i < 16; i++) {
                long bit = 1L << (from + i);
                due.is("key(" + bit + ")", x.key(bit), i);
                due.is("bitsOf(" + i + ")", x.bitsOf(i), bit);
                due.isTrue("another word than that of key 0, by " + bit, x.word(i, 0, 0) != plain);
            }
        }
        DrawStreams x = new DrawStreams();
        long[] ends = {0, -1, Long.MIN_VALUE, Long.MAX_VALUE, 4294967295L, 4294967296L, -4294967296L};
        for (int i = 0; i < ends.length; i++) {
            x.key(ends[i]);
            due.is("bitsOf of " + ends[i], x.bitsOf(i), ends[i]);
        }
        due.is("word(0, 0, 0) of key 0", x.word(0, 0, 0), plain);
    }

    /**
     * "k0 becomes 2654435769 more, k1 3144134277, modulo 2 to the 32": k0 of 1640531527 and k1 of 1150833019 are 0
     * behind the first round, one less is 4294967295, and nothing goes over from k0 to k1.
     */
    private static void roundKeysWrapAround() {
        long[][] known = {
            {0L, 1713891541L, 3781805453L, 3159862348L, 2600524760L},
            {4294967295L, 4127959009L, 4211857312L, 3339500845L, 2108504476L},
            {-4294967296L, 2828195024L, 3953845148L, 2325305287L, 1655107257L},
            {-1L, 1923381001L, 356992825L, 2671882271L, 578394714L},
            {1640531526L, 412917040L, 4098882626L, 930230286L, 3444421467L},
            {1640531527L, 3712199307L, 3536680724L, 3993145865L, 2918495439L},
            {1640531528L, 1176787521L, 884127423L, 549116970L, 940424378L},
            {4942790175466979328L, 3186340741L, 3111291926L, 1251591742L, 3324034745L},
            {4942790179761946624L, 920513576L, 2061942449L, 3389610743L, 99541278L},
            {4942790184056913920L, 2961265919L, 2259768918L, 3293844056L, 3472313822L},
            {2147483648L, 715666156L, 2135696503L, 1499201119L, 4196798001L},
            {4294967296L, 4259200523L, 4202584246L, 864087110L, 3637861455L},
            {Long.MIN_VALUE, 2753305574L, 2172350323L, 40095608L, 1527257162L},
            {Long.MAX_VALUE, 854020009L, 2481712373L, 4176245556L, 227446781L}};
        DrawStreams x = new DrawStreams();
        for (int key = 0; key < known.length; key++) {
            x.key(known[key][0]);
            for (int i = 0; i < 4; i++) {
                due.is("word " + i + " of key " + known[key][0], x.word(key, 0, i), known[key][i + 1]);
            }
        }
    }

    /** "WORDS (of 32 bits, 0 .. 4294967295)": none is below 0. */
    private static void wordsOfAllSizes() {
        DrawStreams x = Places.keyOfZero();
        due.is("the least word", x.word(0, 0, Places.WORD_0), 0);
        due.is("one more", x.word(0, 0, Places.WORD_1), 1);
        due.is("the greatest word with highest bit 0", x.word(0, 0, Places.BELOW_MIDDLE), 2147483647L);
        due.is("the least word with highest bit 1", x.word(0, 0, Places.MIDDLE), 2147483648L);
        due.is("one less than the greatest word", x.word(0, 0, Places.WORD_4294967294), 4294967294L);
        due.is("the greatest word", x.word(0, 0, Places.WORD_4294967295), 4294967295L);
    }

    /** "a STREAM (0 .. 2147483647)", "WORD i (0 at least)": up to the last there is, in key 11. */
    private static void streamsAndPlacesOfWords() {
        long[][] known = {
            {0, 0, 3848496742L}, {0, 9223372036854775806L, 3757090100L}, {0, Long.MAX_VALUE, 1829593739L},
            {1, 0, 3301947688L}, {1, Long.MAX_VALUE, 647451205L},
            {MOST - 1, 0, 2753442026L}, {MOST - 1, Long.MAX_VALUE, 4126771435L},
            {MOST, 0, 1356275866L}, {MOST, 9223372036854775806L, 1444930527L}, {MOST, Long.MAX_VALUE, 3261651807L}};
        DrawStreams x = new DrawStreams();
        x.key(11);
        for (long[] k : known) {
            due.is("word(0, " + k[0] + ", " + k[1] + ")", x.word(0, (int) k[0], k[1]), k[2]);
        }
        due.is("word(0, -1, 0)", x.word(0, -1, 0), -1);
        due.is("word(0, least, 0)", x.word(0, Integer.MIN_VALUE, 0), -1);
        due.is("word(0, 0, -1)", x.word(0, 0, -1), -1);
        due.is("word(0, 0, -4)", x.word(0, 0, -4), -1);
        due.is("word(0, 0, least)", x.word(0, 0, Long.MIN_VALUE), -1);
    }

    /** "WORD i of a STREAM is x(i % 4) of b = i / 4", b going over from its lowest 32 bits to its highest. */
    private static void fourWordsToANumber() {
        long[][] known = {
            {0, 3, 1437745381L}, {0, 4, 1699115334L}, {0, 17179869183L, 2473585213L}, {0, 17179869184L, 1258644030L},
            {0, 2305843009213693951L, 483096119L}, {0, 2305843009213693952L, 1094403631L},
            {0, 2305843009213693953L, 1092999162L}, {MOST, 3, 2639757162L}, {MOST, 4, 3618403039L},
            {MOST, 17179869183L, 231344215L}, {MOST, 17179869184L, 4018063634L}};
        DrawStreams x = new DrawStreams();
        x.key(11);
        for (long[] k : known) {
            due.is("word(0, " + k[0] + ", " + k[1] + ")", x.word(0, (int) k[0], k[1]), k[2]);
        }
    }

    /** "x0, the highest 32 bits, and x1 of sort 1, STREAM 0, b = part": a part is any int, below 0 too. */
    private static void partsOfAllSizes() {
        long[][] known = {{0, 1331920078262006920L}, {1, 1210456081892067844L}, {MOST, -1537238726690282835L},
            {Integer.MIN_VALUE, -1152683495428148717L}, {-2, 6754703459970844148L}, {-1, -1680450182562356984L}};
        DrawStreams x = new DrawStreams();
        x.key(1);
        for (int i = 0; i < known.length; i++) {
            due.is("split(0, " + known[i][0] + ")", x.split(0, (int) known[i][0]), i + 1);
            due.is("bitsOf(" + (i + 1) + ")", x.bitsOf(i + 1), known[i][1]);
        }
        due.is("the other key stays", x.bitsOf(0), 1);
    }

    /** "The bits of a KEY. BAD (which they may be)." */
    private static void bitsMayLookBad() {
        DrawStreams x = new DrawStreams();
        due.is("bitsOf(0) without keys", x.bitsOf(0), -1);
        x.key(-1);
        due.is("bitsOf(0) of a key of -1", x.bitsOf(0), -1);
        due.is("it is a key all the same: word(0, 0, 0)", x.word(0, 0, 0), 1923381001L);
        due.is("and has drawers", x.drawer(0, 0), 0);
    }

    /** "How many: 0 KEYS, 1 DRAWERS, 2 THE ROW. BAD." */
    private static void whatIsCounted() {
        DrawStreams x = new DrawStreams();
        for (int i = 0; i < 16; i++) {
            x.key(i);
        }
        for (int i = 0; i < 12; i++) {
            x.drawer(i, i);
        }
        x.permutation(0, 200);
        due.is("count(-1)", x.count(-1), -1);
        due.is("count(0)", x.count(0), 16);
        due.is("count(1)", x.count(1), 12);
        due.is("count(2)", x.count(2), 200);
        due.is("count(3)", x.count(3), -1);
        due.is("count(least)", x.count(Integer.MIN_VALUE), -1);
        due.is("count(most)", x.count(MOST), -1);
    }

    /** "An object is used for at most 512 calls after it has been made": the 512th is answered like any other. */
    private static void theLastCallOfAll() {
        DrawStreams x = new DrawStreams();
        x.key(11);
        x.drawer(0, 0);
        for (int call = 3; call <= 510; call++) {
            x.hits(0, 1, 2, 1000);
        }
        due.is("call 511: told(0, 0)", x.told(0, 0), 508000);
        due.is("call 512: word(0, 0, 0)", x.word(0, 0, 0), 3848496742L);
    }
}
