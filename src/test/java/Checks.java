/** Counts the calls whose answer is not the one that is due, and prints the first of them. */
final class Checks {

    private static final int MOST_PRINTED = 100;
    private int wrong = 0;

    void due(String call, long got, long want) {
        if (got != want) {
            wrong++;
            if (wrong <= MOST_PRINTED) {
                System.out.println(call + " answered " + got + ", due is " + want);
            }
        }
    }

    void end() {
        if (wrong != 0) {
            System.out.println(wrong + " answers are not as due");
            System.exit(1);
        }
    }
}
