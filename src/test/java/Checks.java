import java.util.List;

/** Counts the answers that are not as due, and prints the first of them. */
final class Checks {

    private static final int MOST_PRINTED = 100;
    private String sentence = "";
    private int wrong = 0;

    /** The sentence of the document that the next answers are held against. */
    void sentence(String place, String words) {
        sentence = place + ": \"" + words + "\"" + System.lineSeparator() + "    ";
    }

    void due(String call, long got, long want) {
        if (got != want) {
            tellWrong(call + " answered " + got + ", due is " + want);
        }
    }

    /** Two states, each told fact by fact. */
    void due(String call, List<String> got, List<String> want) {
        for (int i = 0; i < want.size(); i++) {
            if (!want.get(i).equals(got.get(i))) {
                tellWrong(call + " left '" + got.get(i) + "', due is '" + want.get(i) + "'");
            }
        }
    }

    private void tellWrong(String what) {
        wrong++;
        if (wrong <= MOST_PRINTED) {
            System.out.println(sentence + what);
        }
    }

    void end() {
        if (wrong != 0) {
            System.out.println(wrong + " answers are not as due");
            System.exit(1);
        }
    }
}
