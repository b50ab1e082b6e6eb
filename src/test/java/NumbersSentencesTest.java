import java.util.Arrays;

/** Every call with every mix of numbers in range, just outside and far outside, on a state with all sorts. */
public final class NumbersSentencesTest extends Sentences {

    private static final int[] NUMBERS = {
        Integer.MIN_VALUE, Integer.MIN_VALUE + 1, -256, -9, -3, -2, -1, 0, 1, 2, 3, 4, 5, 6, 7, 8, 9, 10,
        12, 13, 63, 80, 81, 256, 65536, Integer.MAX_VALUE - 1, Integer.MAX_VALUE};
    private static final int WORST_OUTCOME = CAST;

    public static void main(String[] args) {
        CHECKS.sentence("Terms", "Every call tests its numbers first: out of range answers REFUSED, and nothing changes.");
        for (int first : NUMBERS) {
            looksOf(first);
            for (int second : NUMBERS) {
                requestsOfTwo(first, second);
                for (int third : NUMBERS) {
                    requestsOfThree(first, second, third);
                    for (int fourth : NUMBERS) {
                        invokeOf(first, second, third, fourth);
                    }
                }
            }
        }
        CHECKS.end();
    }

    private static boolean isIn(int number, int least, int most) {
        return number >= least && number <= most;
    }

    /** The text of a call is made for a wrong answer alone: there are some million calls. */
    private static void dueOutcome(String name, int got, boolean isGood, int... numbers) {
        boolean isAsDue = isGood ? isIn(got, DONE, WORST_OUTCOME) : got == REFUSED;
        if (!isAsDue) {
            CHECKS.due(name + Arrays.toString(numbers), got, isGood ? DONE : REFUSED);
        }
    }

    private static void dueRefusal(String name, long got, boolean isGood, int... numbers) {
        boolean isRefused = got == REFUSED;
        if (isRefused == isGood) {
            CHECKS.due(name + Arrays.toString(numbers) + " is REFUSED", isRefused ? 1 : 0, isGood ? 0 : 1);
        }
    }

    private static void looksOf(int handle) {
        boolean isGood = isIn(handle, 0, 8);
        dueRefusal("look", full().look(handle, false), isGood, handle);
        dueRefusal("look same", full().look(handle, true), isGood, handle);
        dueRefusal("value", full().value(handle), isGood, handle);
    }

    private static void requestsOfTwo(int first, int second) {
        dueOutcome("hold", full().hold(first, second), isIn(first, 0, 7) && isIn(second, -1, 8), first, second);
        dueOutcome("get", full().get(first, second), isIn(first, 0, 8) && isIn(second, 0, 8), first, second);
        dueOutcome("cast", full().cast(first, second), isIn(first, 0, 8) && isIn(second, 0, 7), first, second);
        dueOutcome("make", full().make(first, false, second), isIn(first, 0, 7), first, second);
        dueOutcome("make with", full().make(first, true, second), isIn(first, 0, 7), first, second);
    }

    private static void requestsOfThree(int first, int second, int third) {
        dueOutcome("put", full().put(first, second, third), isIn(first, 0, 7) && isIn(second, 0, 8), first, second, third);
        boolean isField = isIn(first, 0, 8) && isIn(second, 0, 8);
        dueOutcome("getAs", full().getAs(first, second, third), isField && isIn(third, 0, 7), first, second, third);
        dueOutcome("set", full().set(first, second, third), isField && isIn(third, 0, 8), first, second, third);
        boolean isTyped = isIn(first, 0, 12) && isIn(third, 0, 3) && (third != 0 || isIn(second, 0, 12));
        dueRefusal("typed", full().typed(first, second, third), isTyped, first, second, third);
    }

    private static void invokeOf(int handle, int method, int n, int xy) {
        boolean isGood = isIn(handle, 0, 8) && isIn(method, 0, 5) && isIn(n, 0, 2) && isIn(xy, 0, 80);
        dueOutcome("invoke", full().invoke(handle, method, n, xy), isGood, handle, method, n, xy);
    }
}
