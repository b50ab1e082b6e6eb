/** Promises 5 get, 6 getAs and 7 set. */
public final class FieldsTest {

    private static final Checks CHECKS = new Checks();
    private static final int DONE = MemberInspection.DONE;
    private static final int NULL = MemberInspection.NULL;
    private static final int ARGUMENT = MemberInspection.ARGUMENT;
    private static final int FINAL = MemberInspection.FINAL;
    private static final int REFUSED = MemberInspection.REFUSED;

    // Handles of laden().
    private static final int ITEM = 0;
    private static final int SPECIAL = 1;
    private static final int TEXT = 2;
    private static final int PLAIN = 3;
    private static final int EMPTY = 4;

    private static final int[] FIELD_KINDS = {4, 1, 7, -1, -1, -1, 4, 5, 3};
    // A row for each kind: 1 where it widens to the kind of the column.
    private static final int[][] WIDENS = {
        {1, 0, 0, 0, 0, 0, 0, 0},
        {0, 1, 0, 1, 1, 1, 1, 1},
        {0, 0, 1, 0, 1, 1, 1, 1},
        {0, 0, 0, 1, 1, 1, 1, 1},
        {0, 0, 0, 0, 1, 1, 1, 1},
        {0, 0, 0, 0, 0, 1, 1, 1},
        {0, 0, 0, 0, 0, 0, 1, 1},
        {0, 0, 0, 0, 0, 0, 0, 1}};

    public static void main(String[] args) {
        handlesAreLookedAtFirst();
        getAsWidensFields();
        getAsTellsRealNumbers();
        getAsOfObjectsIsRefused();
        getAsLeavesTheResult();
        setTakesWhatWidens();
        setConvertsValues();
        setTakesObjects();
        nullIsSetToObjectsAlone();
        fixedIsFinal();
        setChangesOneFieldOfOneItem();
        gotBoxesDoNotFollowTheField();
        badNumbersAreRefused();
        CHECKS.end();
    }

    private static MemberInspection laden() {
        MemberInspection x = new MemberInspection();
        x.make(5, true, 11);
        x.hold(ITEM, 8);
        x.make(6, true, 21);
        x.hold(SPECIAL, 8);
        x.put(TEXT, 8, 6);
        x.make(0, false, 0);
        x.hold(PLAIN, 8);
        x.put(7, 1, 3);
        x.make(2, true, 77);
        return x;
    }

    private static void handlesAreLookedAtFirst() {
        for (int field = 0; field <= 8; field++) {
            for (int handle = 0; handle <= 8; handle++) {
                int due = dueOwner(handle, field);
                MemberInspection x = laden();
                String at = "(" + handle + ", " + field + ")";
                CHECKS.due("get" + at, x.get(handle, field), due);
                CHECKS.due("get" + at + " LAST", x.last(), 0);
                if (due != DONE) {
                    CHECKS.due("get" + at + " RESULT stays", x.value(8), 77);
                    CHECKS.due("getAs" + at, laden().getAs(handle, field, 0), due);
                    CHECKS.due("set" + at, laden().set(handle, field, PLAIN), due);
                }
            }
        }
    }

    private static int dueOwner(int handle, int field) {
        if (field == 7 || handle == SPECIAL || (handle == ITEM && field != 8)) {
            return DONE;
        }
        return handle >= EMPTY && handle < 7 ? NULL : ARGUMENT;
    }

    private static void getAsWidensFields() {
        int[] dueWholes = {22, 0, 0, 0, 0, 0, 7, 100, 5};
        for (int field = 0; field <= 8; field++) {
            for (int kind = 0; kind <= 7; kind++) {
                MemberInspection x = laden();
                boolean widens = FIELD_KINDS[field] >= 0 && WIDENS[FIELD_KINDS[field]][kind] == 1;
                String call = "getAs(" + SPECIAL + ", " + field + ", " + kind + ")";
                CHECKS.due(call, x.getAs(SPECIAL, field, kind), widens ? DONE : ARGUMENT);
                long told = kind >= 6 ? dueWholes[field] * 8L : dueWholes[field];
                CHECKS.due(call + " LAST", x.last(), widens ? told : 0);
            }
        }
    }

    private static void getAsTellsRealNumbers() {
        long[] values = {16777217, -16777217, (1L << 54) + 3, (1L << 60) + (1L << 36) + 1,
            Long.MAX_VALUE, Long.MIN_VALUE, 0};
        for (long v : values) {
            MemberInspection x = laden();
            x.put(7, 5, v);
            x.set(0, 7, 7);
            x.getAs(0, 7, 6);
            CHECKS.due("shared as FLOAT of " + v, x.last(), (long) ((double) (float) v * 8.0));
            x.getAs(0, 7, 7);
            CHECKS.due("shared as DOUBLE of " + v, x.last(), (long) ((double) v * 8.0));
            x.getAs(0, 7, 5);
            CHECKS.due("shared as LONG of " + v, x.last(), v);
        }
    }

    private static void getAsOfObjectsIsRefused() {
        MemberInspection x = laden();
        x.put(7, 4, 12);
        x.set(ITEM, 4, 7);
        CHECKS.due("getAs of a box in any", x.getAs(ITEM, 4, 4), ARGUMENT);
        CHECKS.due("getAs of a box in any, LAST", x.last(), 0);
        CHECKS.due("getAs text of null", x.getAs(EMPTY, 3, 4), NULL);
        CHECKS.due("getAs next", x.getAs(ITEM, 5, 4), ARGUMENT);
    }

    private static void getAsLeavesTheResult() {
        MemberInspection x = laden();
        x.getAs(ITEM, 0, 4);
        CHECKS.due("RESULT after getAs", x.value(8), 77);
        CHECKS.due("RESULT after getAs, sort", x.look(8, false), 5);
    }

    private static void setTakesWhatWidens() {
        for (int field : new int[] {0, 1, 2, 7, 8}) {
            for (int kind = 0; kind <= 7; kind++) {
                MemberInspection x = laden();
                x.put(7, kind, 1);
                boolean widens = WIDENS[kind][FIELD_KINDS[field]] == 1;
                String call = "set(" + SPECIAL + ", " + field + ", box of " + kind + ")";
                x.getAs(SPECIAL, field, FIELD_KINDS[field]);
                long before = x.last();
                CHECKS.due(call, x.set(SPECIAL, field, 7), widens ? DONE : ARGUMENT);
                CHECKS.due(call + " LAST", x.last(), 0);
                CHECKS.due(call + " RESULT", x.value(8), 77);
                x.getAs(SPECIAL, field, FIELD_KINDS[field]);
                long after = field == 2 && kind < 6 ? 8 : 1;
                CHECKS.due(call + " field", x.last(), widens ? after : before);
            }
        }
    }

    private static void setConvertsValues() {
        dueSet(0, 2, 65535, 65535);
        dueSet(0, 1, -128, -128);
        dueSet(0, 3, -32768, -32768);
        dueSet(0, 4, Integer.MIN_VALUE, Integer.MIN_VALUE);
        dueSet(1, 1, -128, -128);
        dueSet(2, 5, 9007199254740993L, 9007199254740992L * 8);
        dueSet(2, 6, 3, 3);
        dueSet(2, 7, -3, -3);
        dueSet(2, 2, 65535, 524280);
        dueSet(2, 4, -1, -8);
        dueSet(7, 2, 65535, 65535);
        dueSet(7, 5, Long.MIN_VALUE, Long.MIN_VALUE);
        dueSet(7, 4, -1, -1);
        dueSet(8, 1, -1, -1);
        dueSet(8, 3, -32768, -32768);
    }

    private static void dueSet(int field, int kind, long v, long told) {
        MemberInspection x = laden();
        x.put(7, kind, v);
        String call = "set " + field + " to " + v + " of kind " + kind;
        CHECKS.due(call, x.set(SPECIAL, field, 7), DONE);
        CHECKS.due(call + " get", x.get(SPECIAL, field), DONE);
        CHECKS.due(call + " sort", x.look(8, false), FIELD_KINDS[field] + 1);
        CHECKS.due(call + " value", x.value(8), told);
    }

    private static void setTakesObjects() {
        int[] handles = {ITEM, SPECIAL, TEXT, PLAIN, EMPTY, 7, 8};
        int[][] due = {
            {ARGUMENT, ARGUMENT, DONE, ARGUMENT, DONE, ARGUMENT, ARGUMENT},
            {DONE, DONE, DONE, DONE, DONE, DONE, DONE},
            {DONE, DONE, ARGUMENT, ARGUMENT, DONE, ARGUMENT, ARGUMENT}};
        int[] sorts = {10, 11, 9, 12, 0, 2, 5};
        for (int field = 3; field <= 5; field++) {
            for (int i = 0; i < handles.length; i++) {
                MemberInspection x = laden();
                String call = "set(" + ITEM + ", " + field + ", " + handles[i] + ")";
                int same = x.look(handles[i], true);
                CHECKS.due(call, x.set(ITEM, field, handles[i]), due[field - 3][i]);
                CHECKS.due(call + " get", x.get(ITEM, field), DONE);
                boolean isSet = due[field - 3][i] == DONE;
                CHECKS.due(call + " sort", x.look(8, false), isSet ? sorts[i] : 0);
                CHECKS.due(call + " same", x.look(8, true), isSet ? same : -2);
            }
        }
    }

    private static void nullIsSetToObjectsAlone() {
        for (int field = 0; field <= 8; field++) {
            MemberInspection x = laden();
            x.set(SPECIAL, 3, TEXT);
            x.set(SPECIAL, 4, PLAIN);
            x.set(SPECIAL, 5, ITEM);
            boolean isObject = FIELD_KINDS[field] < 0;
            int due = field == 6 ? FINAL : isObject ? DONE : ARGUMENT;
            CHECKS.due("set " + field + " to null", x.set(SPECIAL, field, EMPTY), due);
            x.get(SPECIAL, field);
            int sort = isObject ? 0 : FIELD_KINDS[field] + 1;
            CHECKS.due("field " + field + " after null", x.look(8, false), sort);
        }
    }

    private static void fixedIsFinal() {
        MemberInspection x = laden();
        for (int from = 0; from <= 8; from++) {
            CHECKS.due("set fixed of an ITEM", x.set(ITEM, 6, from), FINAL);
            CHECKS.due("set fixed of a SPECIAL", x.set(SPECIAL, 6, from), FINAL);
            CHECKS.due("set fixed of null", x.set(EMPTY, 6, from), NULL);
            CHECKS.due("set fixed of a TEXT", x.set(TEXT, 6, from), ARGUMENT);
        }
        x.getAs(ITEM, 6, 4);
        CHECKS.due("fixed", x.last(), 7);
    }

    private static void setChangesOneFieldOfOneItem() {
        int[] froms = {7, 7, 7, 6, TEXT, SPECIAL, 7, 7, 7};
        for (int field = 0; field <= 8; field++) {
            MemberInspection x = laden();
            x.put(6, 8, 4);
            x.set(SPECIAL, 3, TEXT);
            x.set(SPECIAL, 4, PLAIN);
            x.set(SPECIAL, 5, ITEM);
            x.set(SPECIAL, field, froms[field]);
            for (int other = 0; other <= 8; other++) {
                dueAfterSet(x, field, other);
            }
            x.getAs(ITEM, 0, 4);
            CHECKS.due("whole of the other item", x.last(), 11);
        }
    }

    private static void dueAfterSet(MemberInspection x, int field, int other) {
        int[] sortsBefore = {5, 2, 8, 9, 12, 10, 5, 6, 4};
        int[] valuesBefore = {22, 0, 0, 6, 0, 0, 7, 100, 5};
        int[] sortsAfter = {5, 2, 8, 9, 9, 11, 5, 6, 4};
        int[] valuesAfter = {3, 3, 24, 4, 6, 0, 7, 3, 3};
        x.get(SPECIAL, other);
        String call = "field " + other + " after set of " + field;
        CHECKS.due(call + " sort", x.look(8, false), (other == field ? sortsAfter : sortsBefore)[other]);
        CHECKS.due(call + " value", x.value(8), (other == field ? valuesAfter : valuesBefore)[other]);
    }

    private static void gotBoxesDoNotFollowTheField() {
        MemberInspection x = laden();
        x.get(ITEM, 0);
        x.hold(5, 8);
        x.set(ITEM, 0, 7);
        CHECKS.due("box got before set", x.value(5), 11);
        CHECKS.due("RESULT is no handle to the field", x.value(8), 11);
        x.set(ITEM, 5, ITEM);
        x.get(ITEM, 5);
        CHECKS.due("an ITEM next to itself", x.look(8, true), ITEM);
        x.set(8, 0, 5);
        x.getAs(ITEM, 0, 4);
        CHECKS.due("set by RESULT", x.last(), 11);
    }

    private static void badNumbersAreRefused() {
        int[] bad = {-1, 9, Integer.MIN_VALUE, Integer.MAX_VALUE};
        MemberInspection x = laden();
        x.getAs(ITEM, 0, 4);
        for (int number : bad) {
            CHECKS.due("get(" + number + ", 0)", x.get(number, 0), REFUSED);
            CHECKS.due("get(" + number + ", 7)", x.get(number, 7), REFUSED);
            CHECKS.due("get(0, " + number + ")", x.get(0, number), REFUSED);
            CHECKS.due("getAs(" + number + ", 7, 5)", x.getAs(number, 7, 5), REFUSED);
            CHECKS.due("getAs(0, " + number + ", 5)", x.getAs(0, number, 5), REFUSED);
            CHECKS.due("getAs(0, 0, " + number + ")", x.getAs(0, 0, number), REFUSED);
            CHECKS.due("set(" + number + ", 7, 7)", x.set(number, 7, 7), REFUSED);
            CHECKS.due("set(0, " + number + ", 7)", x.set(0, number, 7), REFUSED);
            CHECKS.due("set(0, 0, " + number + ")", x.set(0, 0, number), REFUSED);
        }
        CHECKS.due("getAs(0, 0, 8)", x.getAs(0, 0, 8), REFUSED);
        CHECKS.due("getAs(4, 0, 8) of null", x.getAs(4, 0, 8), REFUSED);
        CHECKS.due("set(4, 6, 9) of null", x.set(4, 6, 9), REFUSED);
        CHECKS.due("LAST after bad numbers", x.last(), 11);
        CHECKS.due("RESULT after bad numbers", x.value(8), 77);
    }
}
