import java.util.ArrayList;
import java.util.Collections;
import java.util.List;
import java.util.Random;

/**
 * The document's first sentence: "each word of a stream is a function of a key, the stream and its place alone, so that
 * the order of asking changes nothing", for words, for drawers that go side by side, and for secret orders.
 */
public final class OpeningTest {
    private static final int SHUFFLES = 20;
    private static final Due due = new Due();

    public static void main(String[] args) {
        wordsInAnyOrder();
        drawersSideBySide();
        ordersInAnyOrder();
        byTheBitsOfAKey();
        alongOneStream();
        due.end();
    }

    private static DrawStreams withKeysAndDrawers() {
        DrawStreams x = new DrawStreams();
        x.key(3);
        x.key(-3);
        x.drawer(0, 5);
        x.drawer(1, 5);
        x.drawer(0, 6);
        x.drawer(0, 5);
        return x;
    }

    private static List<Integer> numbersBelow(int n) {
        List<Integer> numbers = new ArrayList<>();
        for (int i = 0; i < n; i++) {
            numbers.add(i);
        }
        return numbers;
    }

    private static long wordAsked(DrawStreams x, int question) {
        return x.word(question % 2, 5 + question / 2 % 2, question / 4);
    }

    private static void wordsInAnyOrder() {
        List<Integer> questions = numbersBelow(64);
        DrawStreams first = withKeysAndDrawers();
        long[] want = new long[64];
        for (int question : questions) {
            want[question] = wordAsked(first, question);
        }
        for (int shuffle = 0; shuffle < SHUFFLES; shuffle++) {
            Collections.shuffle(questions, new Random(shuffle));
            DrawStreams x = withKeysAndDrawers();
            for (int question : questions) {
                anotherDraw(x, question + shuffle);
                due.is("shuffle " + shuffle + ", word " + question, wordAsked(x, question), want[question]);
            }
        }
    }

    /** Calls of each kind that mixes words, to come between two questions. */
    private static void anotherDraw(DrawStreams x, int kind) {
        switch (kind % 7) {
            case 0 -> x.normal(kind % 4);
            case 1 -> x.secret(kind % 2, 5, 1000, kind);
            case 2 -> x.back(kind % 2, 5, 1000, kind);
            case 3 -> x.split(kind % 2, kind);
            case 4 -> x.subset(kind % 4, 50, 3);
            case 5 -> x.mask(kind % 4, 1, 3, 5);
            default -> x.below(kind % 4, 5);
        }
    }

    /** Draw n of a drawer is of a kind of its own, whatever the other drawers do in between. */
    private static long draw(DrawStreams x, int d, int n) {
        return switch (n % 6) {
            case 0 -> x.bits(d, 40);
            case 1 -> x.below(d, 5);
            case 2 -> x.coin(d, 1, 3);
            case 3 -> x.normal(d);
            case 4 -> x.misses(d, 1, 6, 30);
            default -> x.permutation(d, 4) + x.at(0);
        };
    }

    private static void drawersSideBySide() {
        int draws = 60;
        long[][] want = new long[4][draws];
        DrawStreams oneByOne = withKeysAndDrawers();
        for (int d = 0; d < 4; d++) {
            for (int n = 0; n < draws; n++) {
                want[d][n] = draw(oneByOne, d, n);
            }
        }
        for (int shuffle = 0; shuffle < SHUFFLES; shuffle++) {
            Random random = new Random(shuffle);
            DrawStreams x = withKeysAndDrawers();
            int[] drawn = new int[4];
            for (int turn = 0; turn < draws; turn++) {
                int d = random.nextInt(4);
                due.is("shuffle " + shuffle + ", drawer " + d, draw(x, d, drawn[d]), want[d][drawn[d]]);
                drawn[d]++;
            }
        }
    }

    private static void ordersInAnyOrder() {
        List<Integer> numbers = numbersBelow(50);
        DrawStreams first = withKeysAndDrawers();
        int[] want = new int[50];
        for (int i : numbers) {
            want[i] = first.secret(1, 8, 50, i);
        }
        for (int shuffle = 0; shuffle < SHUFFLES; shuffle++) {
            Collections.shuffle(numbers, new Random(shuffle));
            DrawStreams x = withKeysAndDrawers();
            for (int i : numbers) {
                anotherDraw(x, i + shuffle);
                due.is("back(1, 8, 50, " + want[i] + ")", x.back(1, 8, 50, want[i]), i);
                due.is("secret(1, 8, 50, " + i + ")", x.secret(1, 8, 50, i), want[i]);
            }
        }
    }

    /** "a function of a key": of its bits, not of its number, nor of the way in which it came to be. */
    private static void byTheBitsOfAKey() {
        DrawStreams x = new DrawStreams();
        x.key(3);
        x.split(0, 9);
        DrawStreams y = new DrawStreams();
        y.key(0);
        y.key(x.bitsOf(1));
        y.key(3);
        for (int i = 0; i < 40; i++) {
            due.is("word " + i + " of key 3", y.word(2, 5, i), x.word(0, 5, i));
            due.is("word " + i + " of a split key", y.word(1, 5, i), x.word(1, 5, i));
            due.is("place " + i + " by key 3", y.secret(2, 5, 40, i), x.secret(0, 5, 40, i));
        }
        due.is("a split of key 3 by 9 once more", y.bitsOf(y.split(2, 9)), x.bitsOf(1));
    }

    /** "drawers that go along a stream": what a drawer takes are the words that word() tells of its place. */
    private static void alongOneStream() {
        DrawStreams x = withKeysAndDrawers();
        for (int n = 0; n < 60; n++) {
            draw(x, 3, n);
            long place = x.told(3, 0);
            due.is("the word at place " + place, x.bits(3, 32), x.word(0, 5, place));
        }
    }
}
