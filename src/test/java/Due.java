import java.util.function.IntUnaryOperator;

/** Counts the answers that are not the ones that are due. */
final class Due {
    private static int asked = 0;
    private static int wrong = 0;
    private static String place = "";

    private Due() {
    }

    /** What is asked from here on belongs to this. */
    static void within(String newPlace) {
        place = newPlace + ": ";
    }

    static void is(String call, long got, long want) {
        asked++;
        if (got != want) {
            tellWrong(call + " answered " + got + ", due is " + want);
        }
    }

    static void is(String call, String got, String want) {
        asked++;
        if (!got.equals(want)) {
            tellWrong(call + " answered '" + got + "', due is '" + want + "'");
        }
    }

    static void holds(String what, boolean so) {
        asked++;
        if (!so) {
            tellWrong("it does not hold that " + what);
        }
    }

    private static void tellWrong(String text) {
        wrong++;
        System.out.println(place + text);
    }

    /** Below the low edge and above the high one the call is BAD. */
    static void badBeside(String call, int low, int high, IntUnaryOperator asks) {
        for (int v : new int[] {low - 1, high + 1, Integer.MIN_VALUE, Integer.MAX_VALUE}) {
            is(call + " of " + v, asks.applyAsInt(v), TagTower.BAD);
        }
    }

    /** On both edges the call is taken: its answer is no refusal. */
    static void takenOn(String call, int low, int high, IntUnaryOperator asks) {
        for (int v : new int[] {low, high}) {
            int got = asks.applyAsInt(v);
            holds(call + " of " + v + " is taken, and not answered by " + got, got >= 0);
        }
    }

    static int wrongSoFar() {
        return wrong;
    }

    static int askedSoFar() {
        return asked;
    }

    static void end() {
        System.out.println(asked + " answers, " + wrong + " not as due");
        if (wrong != 0 || asked == 0) {
            System.exit(1);
        }
    }
}
