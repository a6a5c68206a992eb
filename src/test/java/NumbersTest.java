import java.math.BigInteger;

/** Promises 10 (bits), 11 (below), 12 (real), 13 (single), within their bounds. */
public final class NumbersTest {
    private static final Due due = new Due();

    public static void main(String[] args) {
        bits();
        below();
        reals();
        due.end();
    }

    private static DrawStreams oneDrawer() {
        DrawStreams x = new DrawStreams();
        x.key(-987654321L);
        x.drawer(0, 12);
        return x;
    }

    private static void bits() {
        DrawStreams x = oneDrawer();
        long place = 0;
        for (int n = 0; n <= 64; n++) {
            String both = binary(x.word(0, 12, place)) + binary(x.word(0, 12, place + 1));
            long want = n == 0 ? 0 : new BigInteger(both.substring(0, n), 2).longValue();
            due.is("bits(0, " + n + ")", x.bits(0, n), want);
            place += n == 0 ? 0 : n <= 32 ? 1 : 2;
            due.is("told(0, 0)", x.told(0, 0), place);
        }
        due.is("told(0, 1): bits are not rejected", x.told(0, 1), 0);
    }

    private static String binary(long word) {
        return String.format("%32s", Long.toBinaryString(word)).replace(' ', '0');
    }

    private static void below() {
        DrawStreams x = oneDrawer();
        x.drawer(0, 12);
        long rejected = 0;
        long[] spans = {1, 2, 3, 4, 5, 255, 256, 257, 1L << 31, (1L << 31) + 1, (1L << 32) - 1, 1L << 32,
            (1L << 32) + 1, 1000000000000L, 1L << 53, (1L << 62) - 1, 1L << 62, (1L << 62) + 1, Long.MAX_VALUE};
        for (long span : spans) {
            int n = BigInteger.valueOf(span - 1).bitLength();
            long want = x.bits(1, n);
            while (want >= span) {
                rejected++;
                want = x.bits(1, n);
            }
            due.is("below(0, " + span + ")", x.below(0, span), want);
            due.is("told(0, 0)", x.told(0, 0), x.told(1, 0));
            due.is("told(0, 1)", x.told(0, 1), rejected);
        }
    }

    private static void reals() {
        DrawStreams x = oneDrawer();
        x.drawer(0, 12);
        for (int i = 0; i < 60; i++) {
            due.isReal("real(0)", x.real(0), x.bits(1, 53) * 0x1p-53);
            due.isReal("single(0)", x.single(0), x.bits(1, 24) * 0x1p-24);
            due.is("told(0, 0)", x.told(0, 0), 3 * (i + 1));
        }
    }
}
