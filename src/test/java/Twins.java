import java.util.function.Function;
import java.util.function.Supplier;

/**
 * "REFUSALS change nothing": a call is made on one of two objects that were made alike, and all that can be seen of
 * both, and all that they go on to do, must be alike behind it.
 */
final class Twins {
    private final Due due;
    private final String name;
    private final Supplier<DrawStreams> maker;

    Twins(Due due, String name, Supplier<DrawStreams> maker) {
        this.due = due;
        this.name = name;
        this.maker = maker;
    }

    DrawStreams another() {
        return maker.get();
    }

    /** The call answers what is due, or throws it (throws. and the class), and leaves no trace. */
    void changesNothing(String call, Function<DrawStreams, Object> made, Object want) {
        DrawStreams asked = maker.get();
        due.isText(name + ": " + call, Due.told(() -> made.apply(asked)), String.valueOf(want));
        due.isText(name + ": what is seen after " + call, seen(asked), seen(maker.get()));
    }

    /** At most some 350 calls, so that an object in use stays below its 512. The weights come last: they become 0. */
    private static String seen(DrawStreams x) {
        StringBuilder seen = new StringBuilder();
        int keys = x.count(0);
        int drawers = x.count(1);
        int row = x.count(2);
        for (int key = 0; key < keys; key++) {
            seen.append(" key ").append(x.bitsOf(key));
        }
        for (int d = 0; d < drawers; d++) {
            for (int what = 0; what <= 3; what++) {
                seen.append(what == 0 ? " drawer " : "/").append(x.told(d, what));
            }
        }
        for (int i = 0; i < row; i++) {
            seen.append(i == 0 ? " row " : ",").append(x.at(i));
        }
        for (int d = 0; d < drawers; d++) {
            seen.append(" draws ").append(x.choose(d)).append('/').append(x.bits(d, 64));
        }
        seen.append(" next ").append(x.key(5)).append('/').append(x.drawer(0, 0));
        for (int i = 0; i < 32; i++) {
            seen.append(i == 0 ? " weights " : ",").append(x.weight(i, 0));
        }
        return seen.toString();
    }
}
