import java.lang.reflect.Constructor;
import java.lang.reflect.Field;
import java.lang.reflect.Method;

/**
 * The bounds of DEVIATES, HALF and a NORMAL, and of promise 18. The normals that are written out were reckoned by a
 * program in another language, from the document alone, at places of stream 0 of key 0 that were looked for.
 */
public final class NormalBoundsTest {
    private static final Due due = new Due();

    public static void main(String[] args) throws ReflectiveOperationException {
        digitsAtTheMiddle();
        oneAlikeInHalf();
        oneAlikeBehindHalf();
        twoAlike();
        threeAndFourAlike();
        eachK();
        rejectedOnTheWay();
        normalsOfZero();
        greatestDigit();
        noSuchDrawer();
        due.end();
    }

    private static void isNormal(DrawStreams x, long place, long want, int words, int rejected) {
        x.place(0, place);
        String call = "normal(0) at " + place;
        long before = x.told(0, 1);
        due.is(call, x.normal(0), want);
        due.is(call + ": words", x.told(0, 0) - place, words);
        due.is(call + ": rejected", x.told(0, 1) - before, rejected);
    }

    private static void areNormals(long[][] known) {
        DrawStreams x = Places.keyOfZero();
        for (long[] k : known) {
            isNormal(x, k[0], k[1], (int) k[2], (int) k[3]);
        }
    }

    /** "its digit 0 is 2147483648 or more: true": at these places the first digit is just that, or one less. */
    private static void digitsAtTheMiddle() {
        long[][] like = {{2592375475L, -1050330488L, 34, 0}, {8191531328L, 7859856449L, 57, 0},
            {11972648663L, -4621266762L, 13, 0}, {12813606598L, 4812279724L, 7, 0}, {27732704406L, -386010102L, 41, 0}};
        long[][] less = {{4934972786L, 7084454209L, 9, 0}, {5560212982L, 1432252778L, 27, 0},
            {7426317473L, -668764530L, 7, 0}, {29422962886L, 457662368L, 5, 0}, {31752544713L, 2382091135L, 5, 0}};
        DrawStreams x = Places.keyOfZero();
        for (int i = 0; i < like.length; i++) {
            due.is("word " + like[i][0], x.word(0, 0, like[i][0]), 2147483648L);
            due.is("word " + less[i][0], x.word(0, 0, less[i][0]), 2147483647L);
        }
        areNormals(like);
        areNormals(less);
    }

    /** "the first that differ tell": digits 0 of a and b are alike in HALF, digits 1 tell that it is LESS, or is not. */
    private static void oneAlikeInHalf() {
        areNormals(new long[][] {
            {67324497385L, -3936948219L, 44, 0}, {70178097399L, -2064883483L, 8, 0},
            {67324497384L, -2810970362L, 9, 0}, {8360374026L, 3774260535L, 23, 0}});
    }

    /** The same of z and x, of z and the y that was z before, of r and x: digits that were taken before are kept. */
    private static void oneAlikeBehindHalf() {
        areNormals(new long[][] {
            {67324497381L, -3936948219L, 48, 0}, {70178097397L, 806112468L, 7, 0},
            {60652115935L, 6882353413L, 41, 2}, {60652115943L, 6882353413L, 33, 2},
            {24745166508L, -229021126L, 14, 0}, {33734817492L, -274378181L, 14, 0},
            {3209874277L, 6012626993L, 30, 0}, {115156766356L, -6953676460L, 22, 0},
            {96653714460L, -5081402549L, 13, 0}, {96653714462L, -5081402549L, 11, 0}});
    }

    /**
     * At the corner z and x have digits 0 of 4294967295 and digits 1 of 0, if HALF is false by the two words ahead of
     * it: digits 2, 3468806554 and 3162390094, tell that z is not LESS, and the next word makes x less than 0.
     */
    private static void twoAlike() {
        DrawStreams x = Places.atCorner(0);
        isNormal(x, Places.CORNER - 2, -4294967295L, 9, 0);
        isNormal(x, Places.CORNER - 10, -4294967295L, 17, 0);
        isNormal(x, Places.CORNER - 25, -4294967295L, 32, 0);
    }

    /**
     * "when four of each are alike: not LESS": no stream that could be looked for has such words, so that here alone
     * the digits are laid into the deviates of the class itself.
     */
    private static void threeAndFourAlike() throws ReflectiveOperationException {
        long[] digits = {7, 4294967295L, 0, 2147483648L};
        for (int alike = 0; alike < 4; alike++) {
            long[] more = digits.clone();
            more[alike]++;
            due.isTrue(alike + " alike, then less", isLess(digits, more));
            due.isTrue(alike + " alike, then more", !isLess(more, digits));
        }
        due.isTrue("four alike", !isLess(digits, digits.clone()));
    }

    private static boolean isLess(long[] one, long[] other) throws ReflectiveOperationException {
        Class<?> type = Class.forName("DrawStreams$Deviate");
        for (Method m : type.getDeclaredMethods()) {
            if (m.getName().equals("isLess")) {
                m.setAccessible(true);
                return (Boolean) m.invoke(deviate(type, one), deviate(type, other), null);
            }
        }
        throw new NoSuchMethodException("isLess");
    }

    private static Object deviate(Class<?> type, long[] of) throws ReflectiveOperationException {
        Constructor<?> maker = type.getDeclaredConstructor();
        maker.setAccessible(true);
        Object made = maker.newInstance();
        Field digits = type.getDeclaredField("digits");
        digits.setAccessible(true);
        System.arraycopy(of, 0, (long[]) digits.get(made), 0, of.length);
        Field known = type.getDeclaredField("known");
        known.setAccessible(true);
        known.setInt(made, of.length);
        return made;
    }

    /** "k is how often HALF is true ..", "k (k - 1) times HALF" (0 for a k of 0 and of 1), "k + 1 times", up to k = 4. */
    private static void eachK() {
        areNormals(new long[][] {
            {0, -2600524760L, 5, 0}, {5, 83534633L, 5, 0}, {6, -4046415548L, 20, 0},
            {1, -4457557650L, 47, 0}, {2, -4457557650L, 46, 0}, {3, -4457557650L, 45, 0},
            {36, -9189124274L, 18, 0}, {43, -9189124274L, 11, 0}, {76, 9032410657L, 13, 0},
            {715, 14549541202L, 21, 0}, {728, 13893451840L, 20, 0}, {790, 13096022170L, 19, 0},
            {23947, -17187598695L, 29, 0}, {33704, 17422982768L, 35, 0}, {50395, 19596092895L, 31, 0}});
    }

    /** "f is BELOW 2 k + 2": with a k of 2 the span is 6, and REJECTED counts here, too. */
    private static void rejectedOnTheWay() {
        areNormals(new long[][] {
            {84, -2670996750L, 43, 2}, {195, -161940646L, 59, 4}, {464, -5117745624L, 22, 1},
            {542, 8256708146L, 32, 1}, {89, -10553403691L, 25, 1}, {553, 11043713719L, 14, 1},
            {31385, 13688299946L, 79, 1}});
    }

    /** "0 (which it may be)": k is 0 and digit 0 of x 0, with either sign; words are taken all the same. */
    private static void normalsOfZero() {
        areNormals(new long[][] {
            {5992377488L, 0, 5, 0}, {56991202748L, 0, 5, 0}, {12922966359L, 0, 5, 0}, {24578146742L, 0, 5, 0}});
    }

    /** "k 2 to the 32 and digit 0 of x, together": the greatest digit there is does not go over to k. */
    private static void greatestDigit() {
        areNormals(new long[][] {
            {17198841122L, 4294967295L, 6, 0}, {10358304062L, -4294967295L, 6, 0}, {43323228075L, 4294967295L, 11, 0}});
    }

    /** "0 .. also: no such DRAWER." */
    private static void noSuchDrawer() {
        DrawStreams x = new DrawStreams();
        due.is("normal(0) without drawers", x.normal(0), 0);
        x.key(0);
        due.is("normal(0) with a key alone", x.normal(0), 0);
        x.drawer(0, 0);
        for (int d : new int[] {Integer.MIN_VALUE, -1, 1, 12, Integer.MAX_VALUE}) {
            due.is("normal(" + d + ")", x.normal(d), 0);
        }
        due.is("nothing is taken", x.told(0, 0), 0);
        due.is("normal(0)", x.normal(0), -2600524760L);
    }
}
