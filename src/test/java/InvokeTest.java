/** Promise 8 invoke. */
public final class InvokeTest {

    private static final Checks CHECKS = new Checks();
    private static final int DONE = MemberInspection.DONE;
    private static final int NULL = MemberInspection.NULL;
    private static final int ARGUMENT = MemberInspection.ARGUMENT;
    private static final int TARGET = MemberInspection.TARGET;
    private static final int REFUSED = MemberInspection.REFUSED;

    private static final int SUM = 0;
    private static final int TAG = 1;
    private static final int TWICE = 2;
    private static final int DIV = 3;
    private static final int PICK = 4;
    private static final int SELF = 5;
    private static final int[] COUNTS = {2, 2, 1, 2, 1, 1};

    // Handles of laden(); 2 and 3 are the arguments.
    private static final int ITEM = 0;
    private static final int SPECIAL = 1;
    private static final int EMPTY = 4;
    private static final int TEXT = 5;
    private static final int XY = 2 * 9 + 3;

    public static void main(String[] args) {
        receiversAreLookedAtFirst();
        numbersOfArguments();
        argumentsConvert();
        sumWraps();
        tagOfEachSort();
        twiceDoubles();
        divGoesTowardZero();
        pickOfItemsAndSpecials();
        selfSetsSmall();
        failuresAreTold();
        argumentsAreReadFromTheirHandles();
        badNumbersAreRefused();
        CHECKS.end();
    }

    private static MemberInspection laden() {
        MemberInspection x = new MemberInspection();
        x.make(5, true, 100);
        x.hold(ITEM, 8);
        x.make(6, true, 200);
        x.hold(SPECIAL, 8);
        x.put(TEXT, 8, 4);
        x.make(2, true, 77);
        return x;
    }

    /** Arguments that the method takes and does not fail with. */
    private static MemberInspection ready(int method) {
        MemberInspection x = laden();
        x.put(2, 1, 3);
        x.put(3, 1, 2);
        if (method == TAG) {
            x.hold(2, TEXT);
        }
        if (method == PICK) {
            x.hold(2, ITEM);
        }
        return x;
    }

    private static void receiversAreLookedAtFirst() {
        int[] handles = {ITEM, SPECIAL, EMPTY, TEXT, 8};
        int[] due = {DONE, DONE, NULL, ARGUMENT, ARGUMENT};
        for (int method = 0; method <= 5; method++) {
            for (int i = 0; i < handles.length; i++) {
                MemberInspection x = ready(method);
                int outcome = method == TWICE ? DONE : due[i];
                String call = "method " + method + " on handle " + handles[i];
                CHECKS.due(call, x.invoke(handles[i], method, COUNTS[method], XY), outcome);
                CHECKS.due(call + " LAST", x.last(), 0);
                if (outcome != DONE) {
                    CHECKS.due(call + " RESULT", x.value(8), 77);
                }
            }
        }
        CHECKS.due("null before the number", laden().invoke(EMPTY, SUM, 0, XY), NULL);
        CHECKS.due("null before a failure", laden().invoke(EMPTY, PICK, 1, EMPTY * 9), NULL);
        CHECKS.due("no ITEM before a failure", laden().invoke(TEXT, PICK, 1, EMPTY * 9), ARGUMENT);
    }

    private static void numbersOfArguments() {
        for (int method = 0; method <= 5; method++) {
            for (int n = 0; n <= 2; n++) {
                MemberInspection x = ready(method);
                int due = n == COUNTS[method] ? DONE : ARGUMENT;
                CHECKS.due("method " + method + " with " + n, x.invoke(ITEM, method, n, XY), due);
            }
        }
        CHECKS.due("number before a failure", laden().invoke(ITEM, TAG, 1, EMPTY * 9), ARGUMENT);
        CHECKS.due("number of twice on null", laden().invoke(EMPTY, TWICE, 2, XY), ARGUMENT);
    }

    private static void argumentsConvert() {
        // A digit for each sort, 1 where the argument is taken.
        dueArgument(SUM, true, "0011110000000");
        dueArgument(SUM, false, "0011111000000");
        dueArgument(TAG, true, "0000000001000");
        dueArgument(TAG, false, "1111111111111");
        dueArgument(TWICE, true, "0011111110000");
        dueArgument(DIV, true, "0011110000000");
        dueArgument(DIV, false, "0011110000000");
        dueArgument(PICK, true, "0000000000110");
        dueArgument(SELF, true, "0010100000000");
    }

    private static void dueArgument(int method, boolean isFirst, String taken) {
        for (int sort = 0; sort <= 12; sort++) {
            MemberInspection x = ready(method);
            holdSort(x, isFirst ? 2 : 3, sort);
            int due = taken.charAt(sort) == '1' ? DONE : ARGUMENT;
            if (sort == 0 && isFirst && (method == TAG || method == PICK)) {
                due = TARGET;
            }
            String call = "method " + method + " with sort " + sort + (isFirst ? " first" : " second");
            x.make(2, true, 77);
            CHECKS.due(call, x.invoke(SPECIAL, method, COUNTS[method], XY), due);
            if (due == ARGUMENT) {
                CHECKS.due(call + " RESULT", x.value(8), 77);
                CHECKS.due(call + " LAST", x.last(), 0);
            }
        }
    }

    private static void holdSort(MemberInspection x, int handle, int sort) {
        if (sort == 0) {
            x.hold(handle, -1);
        } else if (sort <= 9) {
            x.put(handle, sort - 1, 1);
        } else {
            x.make(sort == 12 ? 0 : sort - 5, sort == 11, 0);
            x.hold(handle, 8);
        }
    }

    private static void dueResult(MemberInspection x, int handle, int method, int sort, long told) {
        String call = "method " + method + " on " + handle;
        CHECKS.due(call, x.invoke(handle, method, COUNTS[method], XY), DONE);
        CHECKS.due(call + " sort", x.look(8, false), sort);
        CHECKS.due(call + " value", x.value(8), told);
        CHECKS.due(call + " LAST", x.last(), 0);
    }

    private static void sumWraps() {
        long[][] rows = {{1, 2}, {-5, 3}, {Integer.MAX_VALUE, Integer.MAX_VALUE},
            {Integer.MAX_VALUE, Long.MAX_VALUE}, {Integer.MIN_VALUE, Long.MIN_VALUE}, {0, 0}};
        for (long[] row : rows) {
            MemberInspection x = laden();
            x.put(2, 4, row[0]);
            x.put(3, 5, row[1]);
            dueResult(x, ITEM, SUM, 6, row[0] + row[1] + 100);
            dueResult(x, SPECIAL, SUM, 6, row[0] + row[1] + 201);
        }
        MemberInspection x = laden();
        x.put(2, 2, 65535);
        x.put(3, 3, -1);
        dueResult(x, ITEM, SUM, 6, 65634);
    }

    private static void tagOfEachSort() {
        for (int sort = 0; sort <= 12; sort++) {
            MemberInspection x = laden();
            x.put(2, 8, 7);
            holdSort(x, 3, sort);
            dueResult(x, ITEM, TAG, 5, 700 + sort);
        }
        MemberInspection x = laden();
        x.make(3, false, 0);
        x.hold(2, 8);
        dueResult(x, SPECIAL, TAG, 5, 0);
    }

    private static void twiceDoubles() {
        long[] values = {3, -3, 0, 9007199254740993L, Long.MAX_VALUE, Long.MIN_VALUE};
        for (long v : values) {
            MemberInspection x = laden();
            x.put(2, 7, v);
            dueResult(x, EMPTY, TWICE, 8, (long) ((double) v * 2.0));
            x.put(2, 5, v);
            dueResult(x, TEXT, TWICE, 8, (long) ((double) v * 16.0));
        }
        MemberInspection x = laden();
        x.put(2, 6, 5);
        dueResult(x, ITEM, TWICE, 8, 10);
        x.put(2, 2, 65535);
        dueResult(x, ITEM, TWICE, 8, 65535 * 16);
        for (int i = 0; i < 200; i++) {
            x.hold(2, 8);
            x.invoke(0, TWICE, 1, XY);
        }
        CHECKS.due("twice again and again", x.value(8), Long.MAX_VALUE);
    }

    private static void divGoesTowardZero() {
        int[][] rows = {{7, 2}, {-7, 2}, {7, -2}, {-7, -2}, {0, 5}, {1, Integer.MAX_VALUE},
            {Integer.MIN_VALUE, -1}, {Integer.MIN_VALUE, 1}, {Integer.MIN_VALUE, Integer.MIN_VALUE}};
        int[] due = {3, -3, -3, 3, 0, 0, Integer.MIN_VALUE, Integer.MIN_VALUE, 1};
        for (int i = 0; i < rows.length; i++) {
            MemberInspection x = laden();
            x.put(2, 4, rows[i][0]);
            x.put(3, 4, rows[i][1]);
            dueResult(x, ITEM, DIV, 5, due[i]);
        }
    }

    private static void pickOfItemsAndSpecials() {
        MemberInspection x = laden();
        x.hold(2, SPECIAL);
        dueResult(x, ITEM, PICK, 5, 100 - 201);
        dueResult(x, SPECIAL, PICK, 5, 5 + 201);
        x.hold(2, ITEM);
        dueResult(x, ITEM, PICK, 5, 0);
        dueResult(x, SPECIAL, PICK, 5, 105);
        x.put(6, 4, Integer.MIN_VALUE);
        x.set(SPECIAL, 0, 6);
        x.hold(2, SPECIAL);
        dueResult(x, ITEM, PICK, 5, 100 - Integer.MIN_VALUE);
        x.put(6, 4, Integer.MAX_VALUE);
        x.set(SPECIAL, 0, 6);
        dueResult(x, SPECIAL, PICK, 5, Integer.MAX_VALUE + 5);
        x.put(6, 3, -6);
        x.set(SPECIAL, 8, 6);
        dueResult(x, SPECIAL, PICK, 5, Integer.MAX_VALUE - 6);
    }

    private static void selfSetsSmall() {
        int[] values = {0, 1, 127, 128, 255, 256, 300, -1, -129, 32767, -32768};
        for (int v : values) {
            for (int on = ITEM; on <= SPECIAL; on++) {
                MemberInspection x = laden();
                x.put(2, 3, v);
                CHECKS.due("self " + v, x.invoke(on, SELF, 1, XY), DONE);
                CHECKS.due("self is the ITEM", x.look(8, true), on);
                x.getAs(on, 1, 1);
                CHECKS.due("small after self " + v, x.last(), (byte) v);
                x.getAs(1 - on, 1, 1);
                CHECKS.due("small of the other", x.last(), 0);
            }
        }
    }

    private static void dueFailure(MemberInspection x, int method, int failure) {
        CHECKS.due("failing method " + method, x.invoke(ITEM, method, COUNTS[method], XY), TARGET);
        CHECKS.due("LAST of method " + method, x.last(), failure);
        CHECKS.due("RESULT after method " + method, x.value(8), 77);
        x.hold(6, -1);
        CHECKS.due("LAST of the next request", x.last(), 0);
    }

    private static void failuresAreTold() {
        MemberInspection x = laden();
        dueFailure(x, TAG, 2);
        dueFailure(x, PICK, 2);
        x.put(2, 4, 5);
        x.put(3, 4, 0);
        dueFailure(x, DIV, 1);
        x.put(2, 4, 0);
        dueFailure(x, DIV, 1);
        x.put(2, 8, 0);
        CHECKS.due("a wrong argument before a failure", x.invoke(ITEM, DIV, 2, XY), ARGUMENT);
        CHECKS.due("pick of null by a SPECIAL", x.invoke(SPECIAL, PICK, 1, EMPTY * 9), TARGET);
    }

    private static void argumentsAreReadFromTheirHandles() {
        MemberInspection x = new MemberInspection();
        for (int handle = 0; handle < 8; handle++) {
            x.put(handle, 4, handle + 1);
        }
        for (int xy = 0; xy <= 80; xy++) {
            x.make(5, true, 0);
            x.put(0, 4, 1);
            x.hold(0, 8);
            x.make(2, true, 9);
            // Handle 0 is the ITEM itself and no INT.
            boolean isGood = xy / 9 != 0 && xy % 9 != 0;
            CHECKS.due("sum of " + xy, x.invoke(0, SUM, 2, xy), isGood ? DONE : ARGUMENT);
            CHECKS.due("value of " + xy, x.value(8), isGood ? xy / 9 + xy % 9 + 2 : 9);
        }
    }

    private static void badNumbersAreRefused() {
        int[][] bad = {{-1, 0, 2, XY}, {9, 0, 2, XY}, {9, TWICE, 1, XY}, {-1, TWICE, 1, XY},
            {0, -1, 2, XY}, {0, 6, 2, XY}, {0, 0, -1, XY}, {0, 0, 3, XY}, {0, 0, 2, -1},
            {0, 0, 2, 81}, {0, SELF, 1, 81}, {0, SELF, 0, -1}, {EMPTY, 0, 3, XY},
            {0, 0, 2, Integer.MIN_VALUE}, {0, 0, 2, Integer.MAX_VALUE},
            {0, Integer.MAX_VALUE, 2, XY}, {Integer.MIN_VALUE, 0, 2, XY}};
        MemberInspection x = ready(SUM);
        x.getAs(ITEM, 0, 4);
        for (int[] row : bad) {
            String call = "invoke(" + row[0] + ", " + row[1] + ", " + row[2] + ", " + row[3] + ")";
            CHECKS.due(call, x.invoke(row[0], row[1], row[2], row[3]), REFUSED);
        }
        CHECKS.due("LAST after bad numbers", x.last(), 100);
        CHECKS.due("RESULT after bad numbers", x.value(8), 77);
    }
}
