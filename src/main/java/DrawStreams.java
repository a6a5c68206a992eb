/**
 * Random draws by counting: a word of a stream is a function of its key, its stream and its place
 * alone. The numbered promises are those of the document, ../shared/DOC.md.
 */
public final class DrawStreams {
    public static final int BAD = -1, FULL = -2, NONE = -3;

    private static final int MOST_KEYS = 16;
    private static final int MOST_DRAWERS = 12;
    private static final int MOST_COINS = 1000;
    private static final int MOST_BITS = 64;
    private static final int MOST_ROW = 200;
    private static final int MOST_SUBSET_SPAN = 1_000_000;
    private static final int MOST_ORDER = 1 << 30;
    private static final int WEIGHTS = 32;
    private static final long MOST_WEIGHT = 1_000_000_000_000L;
    private static final long MOST_PLACE = 1L << 61;
    private static final long REAL_PARTS = 1L << 53;
    private static final int SINGLE_PARTS = 1 << 24;

    private static final long LOW_32 = 0xFFFFFFFFL;
    private static final int SORT_OF_STREAMS = 0;
    private static final int SORT_OF_SPLITS = 1;
    private static final int SORT_OF_ORDERS = 2;

    /** The document bounds no draw; this bounds each loop, far above what chance can ever reach. */
    private static final int MOST_TRIES = 1_000_000;

    private final Words words = new Words();
    private final Normals normals = new Normals();
    private final long[] keys = new long[MOST_KEYS];
    private final Drawer[] drawers = new Drawer[MOST_DRAWERS];
    private final long[] weights = new long[WEIGHTS];
    private final int[] row = new int[MOST_ROW];
    private int keyCount;
    private int drawerCount;
    private int rowLength;

    /** Promise 1. */
    public DrawStreams() {
    }

    /** Promise 2. */
    public int key(long k) {
        if (keyCount >= MOST_KEYS) {
            return FULL;
        }
        keys[keyCount] = k;
        keyCount++;
        return keyCount - 1;
    }

    /** Promise 3. */
    public int split(int key, int part) {
        if (!hasKey(key)) {
            return BAD;
        }
        words.mix(keys[key], 0, SORT_OF_SPLITS, part);
        return key((words.x0 << 32) | words.x1);
    }

    /** Promise 4. */
    public long bitsOf(int key) {
        return hasKey(key) ? keys[key] : BAD;
    }

    /** Promise 5. */
    public long word(int key, int stream, long i) {
        if (!hasKey(key) || stream < 0 || i < 0) {
            return BAD;
        }
        words.mix(keys[key], stream, SORT_OF_STREAMS, i / 4);
        return words.pick(i % 4);
    }

    /** Promise 6. */
    public int drawer(int key, int stream) {
        if (!hasKey(key) || stream < 0) {
            return BAD;
        }
        if (drawerCount >= MOST_DRAWERS) {
            return FULL;
        }
        drawers[drawerCount] = new Drawer(words, key, keys[key], stream);
        drawerCount++;
        return drawerCount - 1;
    }

    /** Promise 7. */
    public int place(int d, long place) {
        Drawer from = find(d);
        if (from == null || !within(place, 0, MOST_PLACE)) {
            return BAD;
        }
        from.place = place;
        return 1;
    }

    /** Promise 8. */
    public long told(int d, int what) {
        Drawer from = find(d);
        if (from == null) {
            return BAD;
        }
        switch (what) {
            case 0:
                return from.place;
            case 1:
                return from.rejected;
            case 2:
                return from.keyNumber;
            case 3:
                return from.stream;
            default:
                return BAD;
        }
    }

    /** Promise 9. */
    public boolean same(int d, int e) {
        Drawer one = find(d);
        Drawer other = find(e);
        if (one == null || other == null) {
            return false;
        }
        return one.keyBits == other.keyBits && one.stream == other.stream && one.place == other.place;
    }

    /** Promise 10. */
    public long bits(int d, int n) {
        Drawer from = find(d);
        if (from == null || !within(n, 0, MOST_BITS)) {
            return BAD;
        }
        return from.takeBits(n);
    }

    /** Promise 11. */
    public long below(int d, long span) throws ArithmeticException {
        Drawer from = find(d);
        if (from == null || span < 0) {
            return BAD;
        }
        if (span == 0) {
            throw new ArithmeticException("no number is below a span of 0");
        }
        return from.takeBelow(span);
    }

    /** Promise 12. */
    public double real(int d) {
        Drawer from = find(d);
        return from == null ? -1.0 : (double) from.takeBits(53) / (double) REAL_PARTS;
    }

    /** Promise 13. */
    public float single(int d) {
        Drawer from = find(d);
        return from == null ? -1.0f : (float) from.takeBits(24) / (float) SINGLE_PARTS;
    }

    /** Promise 14. */
    public int coin(int d, int up, int down) {
        Drawer from = find(d);
        if (from == null || !isCoin(up, down)) {
            return BAD;
        }
        return from.throwCoin(up, down) ? 1 : 0;
    }

    /** Promise 15. */
    public int misses(int d, int up, int down, int most) {
        Drawer from = find(d);
        if (from == null || !isCoin(up, down) || !within(most, 0, MOST_COINS)) {
            return BAD;
        }
        int missed = 0;
        while (missed < most && !from.throwCoin(up, down)) {
            missed++;
        }
        return missed;
    }

    /** Promise 16. */
    public int hits(int d, int up, int down, int n) {
        Drawer from = find(d);
        if (from == null || !isCoin(up, down) || !within(n, 0, MOST_COINS)) {
            return BAD;
        }
        int hit = 0;
        for (int i = 0; i < n; i++) {
            if (from.throwCoin(up, down)) {
                hit++;
            }
        }
        return hit;
    }

    /** Promise 17. */
    public long mask(int d, int up, int down, int n) {
        Drawer from = find(d);
        if (from == null || !isCoin(up, down) || !within(n, 1, MOST_BITS)) {
            return 0;
        }
        long thrown = 0;
        for (int i = 0; i < n; i++) {
            if (from.throwCoin(up, down)) {
                thrown |= 1L << i;
            }
        }
        return thrown;
    }

    /** Promise 18. */
    public long normal(int d) {
        Drawer from = find(d);
        return from == null ? 0 : normals.draw(from);
    }

    /** Promise 19. */
    public int permutation(int d, int n) {
        Drawer from = find(d);
        if (from == null || !within(n, 0, MOST_ROW)) {
            return BAD;
        }
        for (int i = 0; i < n; i++) {
            row[i] = i;
        }
        for (int i = n - 1; i >= 1; i--) {
            changePlaces(i, (int) from.takeBelow(i + 1));
        }
        rowLength = n;
        return n;
    }

    /** Promise 20. */
    public int subset(int d, int n, int m) {
        Drawer from = find(d);
        if (from == null || !within(n, 0, MOST_SUBSET_SPAN) || !within(m, 0, Math.min(n, MOST_ROW))) {
            return BAD;
        }
        rowLength = 0;
        for (int j = n - m; j < n; j++) {
            int t = (int) from.takeBelow(j + 1);
            insertRising(rowHolds(t) ? j : t);
        }
        return m;
    }

    /** Promise 21. */
    public int at(int i) throws ArrayIndexOutOfBoundsException {
        if (i < 0 || i >= rowLength) {
            throw new ArrayIndexOutOfBoundsException("no such number of the row");
        }
        return row[i];
    }

    /** Promise 22. */
    public long weight(int i, long w) {
        if (!within(i, 0, WEIGHTS - 1) || !within(w, 0, MOST_WEIGHT)) {
            return BAD;
        }
        long was = weights[i];
        weights[i] = w;
        return was;
    }

    /** Promise 23. */
    public int choose(int d) {
        Drawer from = find(d);
        if (from == null) {
            return BAD;
        }
        long sum = 0;
        for (int i = 0; i < WEIGHTS; i++) {
            sum += weights[i];
        }
        return sum == 0 ? NONE : firstAbove(from.takeBelow(sum));
    }

    /** Promise 24. */
    public int secret(int key, int stream, int n, int i) {
        if (!isOrder(key, stream, n) || !within(i, 0, n - 1)) {
            return BAD;
        }
        return new SecretOrder(words, keys[key], stream, n).placeOf(i);
    }

    /** Promise 25. */
    public int back(int key, int stream, int n, int place) {
        if (!isOrder(key, stream, n) || !within(place, 0, n - 1)) {
            return BAD;
        }
        return new SecretOrder(words, keys[key], stream, n).numberAt(place);
    }

    /** Promise 26. */
    public int count(int what) {
        switch (what) {
            case 0:
                return keyCount;
            case 1:
                return drawerCount;
            case 2:
                return rowLength;
            default:
                return BAD;
        }
    }

    private static boolean within(long number, long least, long most) {
        return number >= least && number <= most;
    }

    private static boolean isCoin(int up, int down) {
        return down >= 1 && within(up, 0, down);
    }

    private boolean hasKey(int key) {
        return key >= 0 && key < keyCount;
    }

    private boolean isOrder(int key, int stream, int n) {
        return hasKey(key) && stream >= 0 && within(n, 1, MOST_ORDER);
    }

    /** Null where there is no such drawer, so that each caller has to refuse it in its own way. */
    private Drawer find(int d) {
        return d >= 0 && d < drawerCount ? drawers[d] : null;
    }

    /** No number drawn is beyond the row; an index is looked at all the same before it is used. */
    private void changePlaces(int i, int t) {
        if (!within(i, 0, MOST_ROW - 1) || !within(t, 0, MOST_ROW - 1)) {
            return;
        }
        int kept = row[i];
        row[i] = row[t];
        row[t] = kept;
    }

    private boolean rowHolds(int number) {
        for (int i = 0; i < rowLength; i++) {
            if (row[i] == number) {
                return true;
            }
        }
        return false;
    }

    private void insertRising(int number) {
        if (rowLength >= MOST_ROW) {
            return;
        }
        int i = rowLength;
        while (i > 0 && row[i - 1] > number) {
            row[i] = row[i - 1];
            i--;
        }
        row[i] = number;
        rowLength++;
    }

    private int firstAbove(long v) {
        long together = 0;
        for (int i = 0; i < WEIGHTS; i++) {
            together += weights[i];
            if (together > v) {
                return i;
            }
        }
        return NONE;
    }

    /** The four words of the latest mixing; one object serves all calls, so that none makes a row. */
    private static final class Words {
        private static final int ROUNDS = 10;
        private static final long FACTOR_P = 3528531795L;
        private static final long FACTOR_Q = 3449720151L;
        private static final long STEP_0 = 2654435769L;
        private static final long STEP_1 = 3144134277L;

        private long x0;
        private long x1;
        private long x2;
        private long x3;

        /** A product of two numbers below 2 to the 32 fills a long's 64 bits exactly, sign or not. */
        void mix(long keyBits, int stream, int sort, long b) {
            long a0 = b & LOW_32;
            long a1 = b >>> 32;
            long a2 = stream;
            long a3 = sort;
            long k0 = keyBits & LOW_32;
            long k1 = keyBits >>> 32;
            for (int round = 0; round < ROUNDS; round++) {
                long p = FACTOR_P * a0;
                long q = FACTOR_Q * a2;
                a0 = (q >>> 32) ^ a1 ^ k0;
                a1 = q & LOW_32;
                a2 = (p >>> 32) ^ a3 ^ k1;
                a3 = p & LOW_32;
                k0 = (k0 + STEP_0) & LOW_32;
                k1 = (k1 + STEP_1) & LOW_32;
            }
            x0 = a0;
            x1 = a1;
            x2 = a2;
            x3 = a3;
        }

        long pick(long i) {
            switch ((int) i) {
                case 0:
                    return x0;
                case 1:
                    return x1;
                case 2:
                    return x2;
                default:
                    return x3;
            }
        }
    }

    private static final class Drawer {
        private final Words words;
        private final int keyNumber;
        private final long keyBits;
        private final int stream;
        private long place;
        private long rejected;

        Drawer(Words words, int keyNumber, long keyBits, int stream) {
            this.words = words;
            this.keyNumber = keyNumber;
            this.keyBits = keyBits;
            this.stream = stream;
        }

        long takeWord() {
            words.mix(keyBits, stream, SORT_OF_STREAMS, place / 4);
            long taken = words.pick(place % 4);
            place++;
            return taken;
        }

        long takeBits(int n) {
            if (n <= 0) {
                return 0;
            }
            if (n <= 32) {
                return takeWord() >>> (32 - n);
            }
            long high = takeWord() << 32;
            return (high | takeWord()) >>> (64 - n);
        }

        long takeBelow(long span) {
            int n = 0;
            while (n < 63 && (1L << n) < span) {
                n++;
            }
            for (int tries = 0; tries < MOST_TRIES; tries++) {
                long taken = takeBits(n);
                if (taken < span) {
                    return taken;
                }
                rejected++;
            }
            return 0;
        }

        boolean throwCoin(int up, int down) {
            if (up <= 0) {
                return false;
            }
            if (up >= down) {
                return true;
            }
            // Behind these two tests down is more than up and so at least 2: it may divide.
            long r = up;
            for (int tries = 0; tries < MOST_TRIES; tries++) {
                long q = (r << 32) / down;
                r = (r << 32) % down;
                long taken = takeWord();
                if (taken != q) {
                    return taken < q;
                }
                if (r == 0) {
                    return false;
                }
            }
            return false;
        }
    }

    private static final class Deviate {
        private static final int DIGITS = 4;

        private final long[] digits = new long[DIGITS];
        private int known;

        void renew() {
            known = 0;
        }

        /** A digit is taken when it is first asked for: the order of asking is the order of words. */
        long digit(int j, Drawer from) {
            while (known <= j && known < DIGITS) {
                digits[known] = from.takeWord();
                known++;
            }
            return j >= 0 && j < known ? digits[j] : 0;
        }

        boolean isLess(Deviate other, Drawer from) {
            for (int j = 0; j < DIGITS; j++) {
                long mine = digit(j, from);
                long others = other.digit(j, from);
                if (mine != others) {
                    return mine < others;
                }
            }
            return false;
        }
    }

    /** Holds the deviates that a normal needs at once, so that they are used again and again. */
    private static final class Normals {
        private static final long MIDDLE = 1L << 31;

        private final Deviate a = new Deviate();
        private final Deviate b = new Deviate();
        private final Deviate x = new Deviate();
        private final Deviate even = new Deviate();
        private final Deviate odd = new Deviate();
        private final Deviate r = new Deviate();

        long draw(Drawer from) {
            for (int tries = 0; tries < MOST_TRIES; tries++) {
                int k = 0;
                while (k < MOST_TRIES && half(from)) {
                    k++;
                }
                boolean kept = true;
                for (long i = 0; kept && i < (long) k * (k - 1); i++) {
                    kept = half(from);
                }
                x.renew();
                for (int i = 0; kept && i <= k; i++) {
                    kept = isRunEven(k, from);
                }
                if (kept) {
                    long size = ((long) k << 32) + x.digit(0, from);
                    return from.takeBits(1) == 1 ? -size : size;
                }
            }
            return 0;
        }

        private boolean half(Drawer from) {
            a.renew();
            if (a.digit(0, from) >= MIDDLE) {
                return true;
            }
            for (int tries = 0; tries < MOST_TRIES; tries++) {
                b.renew();
                if (!b.isLess(a, from)) {
                    return false;
                }
                a.renew();
                if (!a.isLess(b, from)) {
                    return true;
                }
            }
            return true;
        }

        /** z and the y that it was before take turns in two deviates, so that y is never renewed. */
        private boolean isRunEven(int k, Drawer from) {
            Deviate y = x;
            for (int n = 0; n < MOST_TRIES; n++) {
                boolean isEven = n % 2 == 0;
                Deviate z = isEven ? even : odd;
                z.renew();
                if (!z.isLess(y, from)) {
                    return isEven;
                }
                long f = from.takeBelow(2L * k + 2);
                if (f == 0) {
                    return isEven;
                }
                if (f == 1) {
                    r.renew();
                    if (!r.isLess(x, from)) {
                        return isEven;
                    }
                }
                y = z;
            }
            return false;
        }
    }

    private static final class SecretOrder {
        private static final int ROUNDS = 6;
        private static final int MOST_PART_BITS = 15;

        private final Words words;
        private final long keyBits;
        private final int stream;
        private final int n;
        private final int m;
        private final int lowest;
        private final int numbers;

        SecretOrder(Words words, long keyBits, int stream, int n) {
            this.words = words;
            this.keyBits = keyBits;
            this.stream = stream;
            this.n = n;
            int parts = 1;
            while (parts < MOST_PART_BITS && (1 << (2 * parts)) < n) {
                parts++;
            }
            this.m = parts;
            this.lowest = (1 << parts) - 1;
            this.numbers = 1 << (2 * parts);
        }

        /** A walk is one to one below 4 to the m, so that so many of them are back at i at the latest. */
        int placeOf(int i) {
            int found = walked(i);
            for (int walks = 1; found >= n && walks < numbers; walks++) {
                found = walked(found);
            }
            return found;
        }

        int numberAt(int place) {
            int found = walkedBack(place);
            for (int walks = 1; found >= n && walks < numbers; walks++) {
                found = walkedBack(found);
            }
            return found;
        }

        private int walked(int number) {
            int left = number >>> m;
            int right = number & lowest;
            for (int j = 0; j < ROUNDS; j++) {
                int was = left;
                left = right;
                right = was ^ shade(j, right);
            }
            return (left << m) | right;
        }

        private int walkedBack(int number) {
            int left = number >>> m;
            int right = number & lowest;
            for (int j = ROUNDS - 1; j >= 0; j--) {
                int was = right;
                right = left;
                left = was ^ shade(j, right);
            }
            return (left << m) | right;
        }

        private int shade(int j, int right) {
            words.mix(keyBits, stream, SORT_OF_ORDERS, ((long) j << 32) | right);
            return (int) (words.x0 & lowest);
        }
    }
}
