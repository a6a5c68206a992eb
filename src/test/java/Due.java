import java.util.function.Supplier;

/** Counts the answers that are not as due and prints each of them. */
final class Due {
    private int asked;
    private int wrong;

    void is(String call, long got, long want) {
        judge(call, got == want, Long.toString(got), Long.toString(want));
    }

    void isReal(String call, double got, double want) {
        judge(call, got == want, Double.toString(got), Double.toString(want));
    }

    void isTrue(String what, boolean got) {
        judge(what, got, "false", "true");
    }

    void isText(String call, String got, String want) {
        judge(call, got.equals(want), got, want);
    }

    /** The answer of a call as a text, or throws. and the very class of what it threw. */
    static String told(Supplier<Object> call) {
        try {
            return String.valueOf(call.get());
        } catch (RuntimeException e) {
            return (isOfTheMachine(e) ? "the machine throws." : "throws.") + e.getClass().getSimpleName();
        }
    }

    /** The class has to throw by a throw statement: these texts are those of the machine's own exceptions. */
    private static boolean isOfTheMachine(RuntimeException e) {
        String text = String.valueOf(e.getMessage());
        return text.contains("out of bounds for length") || text.equals("/ by zero") || e instanceof NullPointerException;
    }

    void end() {
        if (asked == 0) {
            System.out.println("nothing was asked");
        }
        if (asked == 0 || wrong > 0) {
            System.exit(1);
        }
    }

    private void judge(String call, boolean right, String got, String want) {
        asked++;
        if (!right) {
            wrong++;
            System.out.println(call + " answered " + got + ", due is " + want);
        }
    }
}
