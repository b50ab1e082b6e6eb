/** Promises 1 a new object, 2 put, 3 hold, 10 last, 11 look and 12 value. */
public final class HandlesTest {

    private static final Checks CHECKS = new Checks();
    private static final long HIGH_BITS = 0x7FEDCBA987654321L;

    public static void main(String[] args) {
        newObjectIsEmpty();
        objectsShareNothing();
        putMakesEachKind();
        putMakesRealNumbers();
        putMakesTexts();
        putRefusesBadNumbers();
        holdSharesObjects();
        holdRefusesBadNumbers();
        lastIsOfTheLatestRequest();
        lookTellsSorts();
        lookTellsTheLeastSameHandle();
        lookAndValueRefuseBadHandles();
        valueOfObjectsIsZero();
        CHECKS.end();
    }

    private static void newObjectIsEmpty() {
        MemberInspection x = new MemberInspection();
        for (int handle = 0; handle <= 8; handle++) {
            CHECKS.due("new: look " + handle, x.look(handle, false), 0);
            CHECKS.due("new: look same " + handle, x.look(handle, true), -2);
            CHECKS.due("new: value " + handle, x.value(handle), 0);
        }
        CHECKS.due("new: last", x.last(), 0);
        CHECKS.due("new: shared", x.getAs(0, 7, 5), MemberInspection.DONE);
        CHECKS.due("new: shared told", x.last(), 100);
    }

    private static void objectsShareNothing() {
        MemberInspection x = new MemberInspection();
        x.put(0, 5, 55);
        CHECKS.due("set shared", x.set(0, 7, 0), MemberInspection.DONE);
        MemberInspection y = new MemberInspection();
        y.getAs(0, 7, 5);
        CHECKS.due("shared of another object", y.last(), 100);
        CHECKS.due("handle of another object", y.look(0, false), 0);
        x.getAs(0, 7, 5);
        CHECKS.due("shared of the first object", x.last(), 55);
    }

    private static void putMakesEachKind() {
        long[] wholes = {HIGH_BITS, ~HIGH_BITS, 0, 1, -1, 2, 127, 128, 255, 256, 32767, 32768, 65535, 65536,
            Integer.MAX_VALUE, Integer.MIN_VALUE, 1L << 32, Long.MAX_VALUE, Long.MIN_VALUE};
        for (long v : wholes) {
            dueBox(0, v, v & 1);
            dueBox(1, v, (byte) v);
            dueBox(2, v, (char) v);
            dueBox(3, v, (short) v);
            dueBox(4, v, (int) v);
            dueBox(5, v, v);
            dueBox(6, v, (long) ((double) ((float) v * 0.125f) * 8.0));
            dueBox(7, v, (long) ((double) v * 0.125 * 8.0));
        }
    }

    private static void dueBox(int kind, long v, long told) {
        MemberInspection x = new MemberInspection();
        String call = "put(7, " + kind + ", " + v + ")";
        CHECKS.due(call, x.put(7, kind, v), MemberInspection.DONE);
        CHECKS.due(call + " look", x.look(7, false), kind + 1);
        CHECKS.due(call + " value", x.value(7), told);
        CHECKS.due(call + " leaves RESULT", x.look(8, false), 0);
    }

    private static void putMakesRealNumbers() {
        dueBox(6, 3, 3);
        dueBox(6, -3, -3);
        dueBox(6, 16777217, 16777216);
        dueBox(6, 33554435, 33554436);
        dueBox(7, 16777217, 16777217);
        dueBox(7, 9007199254740993L, 9007199254740992L);
        dueBox(7, Long.MAX_VALUE, Long.MAX_VALUE);
        dueBox(6, Long.MAX_VALUE - 1, Long.MAX_VALUE);
        dueBox(6, Long.MIN_VALUE, Long.MIN_VALUE);
    }

    private static void putMakesTexts() {
        long[] numbers = {0, 9, 10, 17, -1, -10, -17, Long.MAX_VALUE, Long.MIN_VALUE};
        int[] due = {0, 9, 0, 7, 9, 0, 3, 7, 2};
        for (int i = 0; i < numbers.length; i++) {
            MemberInspection x = new MemberInspection();
            CHECKS.due("put text " + numbers[i], x.put(0, 8, numbers[i]), MemberInspection.DONE);
            CHECKS.due("look text " + numbers[i], x.look(0, false), 9);
            CHECKS.due("value text " + numbers[i], x.value(0), due[i]);
        }
    }

    /** An object with LAST 7, the box 3 in handle 0 and the same item in 1 and RESULT. */
    private static MemberInspection laden() {
        MemberInspection x = new MemberInspection();
        x.put(0, 5, 3);
        x.make(5, true, 7);
        x.hold(1, 8);
        x.getAs(1, 0, 4);
        return x;
    }

    private static void dueUntouched(String call, MemberInspection x) {
        CHECKS.due(call + " keeps LAST", x.last(), 7);
        CHECKS.due(call + " keeps handle 0", x.value(0), 3);
        CHECKS.due(call + " keeps handle 1", x.look(1, true), 1);
        CHECKS.due(call + " keeps handle 7", x.look(7, false), 0);
        CHECKS.due(call + " keeps RESULT", x.look(8, true), 1);
    }

    private static void putRefusesBadNumbers() {
        int[][] bad = {{-1, 0}, {8, 0}, {9, 8}, {0, -1}, {0, 9}, {7, Integer.MAX_VALUE},
            {Integer.MIN_VALUE, 0}, {Integer.MAX_VALUE, Integer.MIN_VALUE}};
        for (int[] numbers : bad) {
            MemberInspection x = laden();
            String call = "put(" + numbers[0] + ", " + numbers[1] + ", 1)";
            CHECKS.due(call, x.put(numbers[0], numbers[1], 1), MemberInspection.REFUSED);
            dueUntouched(call, x);
        }
    }

    private static void holdSharesObjects() {
        MemberInspection x = laden();
        CHECKS.due("hold(7, 8)", x.hold(7, 8), MemberInspection.DONE);
        CHECKS.due("hold shares the item", x.look(7, true), 1);
        CHECKS.due("hold(2, 0)", x.hold(2, 0), MemberInspection.DONE);
        CHECKS.due("hold takes the box", x.value(2), 3);
        x.put(0, 5, 4);
        CHECKS.due("a later put leaves the held box", x.value(2), 3);
        CHECKS.due("hold(7, -1)", x.hold(7, -1), MemberInspection.DONE);
        CHECKS.due("hold clears", x.look(7, false), 0);
        CHECKS.due("hold(1, 6) of null", x.hold(1, 6), MemberInspection.DONE);
        CHECKS.due("hold of null clears", x.look(1, false), 0);
        CHECKS.due("hold leaves RESULT", x.look(8, false), 10);
        CHECKS.due("hold(2, 2)", x.hold(2, 2), MemberInspection.DONE);
        CHECKS.due("hold of itself", x.value(2), 3);
    }

    private static void holdRefusesBadNumbers() {
        int[][] bad = {{-1, 0}, {8, 0}, {0, -2}, {0, 9}, {1, Integer.MIN_VALUE},
            {Integer.MAX_VALUE, 0}};
        for (int[] numbers : bad) {
            MemberInspection x = laden();
            String call = "hold(" + numbers[0] + ", " + numbers[1] + ")";
            CHECKS.due(call, x.hold(numbers[0], numbers[1]), MemberInspection.REFUSED);
            dueUntouched(call, x);
        }
    }

    private static void lastIsOfTheLatestRequest() {
        MemberInspection x = laden();
        x.look(0, true);
        x.value(1);
        x.typed(0, 0, 0);
        x.last();
        CHECKS.due("no request leaves LAST", x.last(), 7);
        for (int request = 0; request < 9; request++) {
            MemberInspection y = laden();
            doRequest(y, request);
            CHECKS.due("LAST after request " + request, y.last(), 0);
        }
    }

    private static void doRequest(MemberInspection x, int request) {
        switch (request) {
            case 0 -> x.put(3, 0, 1);
            case 1 -> x.hold(3, 0);
            case 2 -> x.make(0, false, 0);
            case 3 -> x.make(4, false, 0);
            case 4 -> x.get(1, 0);
            case 5 -> x.getAs(1, 0, 3);
            case 6 -> x.set(1, 6, 0);
            case 7 -> x.invoke(1, 0, 0, 0);
            default -> x.cast(1, 3);
        }
    }

    private static void lookTellsSorts() {
        MemberInspection x = new MemberInspection();
        int[] due = {10, 11, 12, 9, 5};
        int[] types = {5, 6, 0, 3, 2};
        for (int i = 0; i < types.length; i++) {
            CHECKS.due("make " + types[i], x.make(types[i], types[i] == 6 || types[i] == 2, 1), 0);
            CHECKS.due("look RESULT " + types[i], x.look(8, false), due[i]);
            x.hold(i, 8);
            CHECKS.due("look handle " + types[i], x.look(i, false), due[i]);
        }
    }

    private static void lookTellsTheLeastSameHandle() {
        for (int type : new int[] {0, 5, 6}) {
            MemberInspection x = new MemberInspection();
            x.make(type, type == 6, 0);
            CHECKS.due("same: in RESULT alone", x.look(8, true), -2);
            x.hold(7, 8);
            CHECKS.due("same: in 7", x.look(8, true), 7);
            x.hold(4, 8);
            CHECKS.due("same: in 4 and 7", x.look(7, true), 4);
            x.make(type, type == 6, 0);
            x.hold(0, 8);
            CHECKS.due("same: an equal object is another", x.look(7, true), 4);
            CHECKS.due("same: the other", x.look(8, true), 0);
        }
        for (int sort = 0; sort <= 8; sort++) {
            MemberInspection x = new MemberInspection();
            x.put(3, sort, 1);
            CHECKS.due("same: box or text " + sort, x.look(3, true), -2);
        }
    }

    private static void lookAndValueRefuseBadHandles() {
        MemberInspection x = laden();
        for (int handle : new int[] {-1, 9, 10, Integer.MIN_VALUE, Integer.MAX_VALUE}) {
            CHECKS.due("look(" + handle + ", false)", x.look(handle, false), MemberInspection.REFUSED);
            CHECKS.due("look(" + handle + ", true)", x.look(handle, true), MemberInspection.REFUSED);
            CHECKS.due("value(" + handle + ")", x.value(handle), -1);
        }
        dueUntouched("look and value", x);
    }

    private static void valueOfObjectsIsZero() {
        MemberInspection x = new MemberInspection();
        for (int type : new int[] {0, 5, 6}) {
            x.make(type, type == 6, 42);
            CHECKS.due("value of type " + type, x.value(8), 0);
        }
    }
}
