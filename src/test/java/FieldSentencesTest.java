import java.util.List;

/** The sentences of promises 5 get, 6 getAs and 7 set. */
public final class FieldSentencesTest extends Sentences {

    // For the handles of full(), RESULT too: what get answers of a field of an ITEM, and of extra.
    private static final int[] OF_AN_ITEM = {DONE, DONE, ARGUMENT, ARGUMENT, NULL, ARGUMENT, DONE, ARGUMENT, ARGUMENT};
    private static final int[] OF_A_SPECIAL = {ARGUMENT, DONE, ARGUMENT, ARGUMENT, NULL, ARGUMENT, ARGUMENT, ARGUMENT, ARGUMENT};

    public static void main(String[] args) {
        getTakesItsNumbers();
        getAnswersEachField();
        getMakesNewBoxes();
        getOfSharedLooksAtNoHandle();
        getRefusesNullAndOthers();
        getAsTakesItsNumbers();
        getAsTellsLast();
        getAsOfSharedLooksAtNoHandle();
        getAsLooksAtTheHandleFirst();
        getAsRefusesObjects();
        getAsRefusesNarrowing();
        setTakesItsNumbers();
        setChangesTheFieldAlone();
        setLooksAtTheHandleFirst();
        setOfSharedLooksAtNoHandle();
        setRefusesFixedNext();
        setRefusesWhatDoesNotConvertLast();
        setNeverNarrows();
        setConverts();
        setHoldsTheObjectItself();
        setTakesNullForObjects();
        CHECKS.end();
    }

    private static int dueOwner(int handle, int field) {
        return field == SHARED ? DONE : field == EXTRA ? OF_A_SPECIAL[handle] : OF_AN_ITEM[handle];
    }

    private static void getTakesItsNumbers() {
        CHECKS.sentence("Promise 5", "RESULT is the value of a FIELD 0 .. 8 of what a handle 0 .. 8 holds,");
        for (int handle = -1; handle <= 9; handle++) {
            for (int field = -1; field <= 9; field++) {
                boolean isGood = handle >= 0 && handle <= 8 && field >= 0 && field <= 8;
                int due = isGood ? dueOwner(handle, field) : REFUSED;
                CHECKS.due("get(" + handle + ", " + field + ")", full().get(handle, field), due);
            }
        }
    }

    private static void getAnswersEachField() {
        CHECKS.sentence("Promise 5", "RESULT is the value of a FIELD 0 .. 8 of what a handle 0 .. 8 holds,");
        int[] sorts = {5, 2, 8, 9, 12, 11, 5, 6};
        long[] values = {11, 3, 12, 6, 0, 0, 7, 55};
        int[] sames = {-2, -2, -2, -2, A_PLAIN, A_SPECIAL, -2, -2};
        for (int field = WHOLE; field <= SHARED; field++) {
            MemberInspection x = full();
            dueField("an ITEM's field", x, ITEM_AGAIN, field, sorts[field], values[field]);
            CHECKS.due("look(8, true) of field " + field, x.look(RESULT, true), sames[field]);
            CHECKS.due("last() after get of field " + field, x.last(), 0);
        }
        MemberInspection x = full();
        dueField("a SPECIAL's field", x, A_SPECIAL, EXTRA, SHORT + 1, 9);
        dueField("a field that is null", x, A_SPECIAL, TEXT, 0, 0);
    }

    private static void getMakesNewBoxes() {
        CHECKS.sentence("Promise 5", "in a new box if it is a value.");
        int[] fields = {WHOLE, SMALL, REAL, SHARED, EXTRA};
        int[] kinds = {INT, BYTE, DOUBLE, LONG, SHORT};
        long[] before = {22, 0, 0, 55, 9};
        for (int i = 0; i < fields.length; i++) {
            MemberInspection x = full();
            x.get(A_SPECIAL, fields[i]);
            x.hold(A_TEXT, RESULT);
            setTo(x, A_SPECIAL, fields[i], kinds[i], 100);
            dueIn("the box of field " + fields[i] + " after a set", x, A_TEXT, kinds[i] + 1, before[i]);
            dueIn("RESULT after a set of field " + fields[i], x, RESULT, kinds[i] + 1, before[i]);
            dueField("the field itself", x, A_SPECIAL, fields[i], kinds[i] + 1, 100);
        }
    }

    private static void getOfSharedLooksAtNoHandle() {
        CHECKS.sentence("Promise 5", "shared: the handle is not looked at.");
        for (int handle = 0; handle <= RESULT; handle++) {
            dueField("shared", full(), handle, SHARED, LONG + 1, 55);
        }
        for (int bad : outside(0, 8)) {
            CHECKS.due("get(" + bad + ", 7)", full().get(bad, SHARED), REFUSED);
        }
    }

    private static void getRefusesNullAndOthers() {
        CHECKS.sentence("Promise 5", "Else null: NULL; no ITEM (for extra: no SPECIAL): ARGUMENT. DONE.");
        for (int field = WHOLE; field <= EXTRA; field++) {
            for (int handle = 0; handle <= RESULT; handle++) {
                MemberInspection x = full();
                int due = dueOwner(handle, field);
                CHECKS.due("get(" + handle + ", " + field + ")", x.get(handle, field), due);
                if (due != DONE) {
                    CHECKS.due("get(" + handle + ", " + field + ")", factsOf(x), fullFactsWithLast(0));
                }
            }
        }
    }

    private static void getAsTakesItsNumbers() {
        CHECKS.sentence("Promise 6", "LAST is the value of a FIELD 0 .. 8 as one of kind 0 .. 7, TOLD.");
        for (int bad : outside(0, 8)) {
            CHECKS.due("getAs(" + bad + ", 0, 4)", full().getAs(bad, WHOLE, INT), REFUSED);
            CHECKS.due("getAs(" + bad + ", 7, 5)", full().getAs(bad, SHARED, LONG), REFUSED);
            CHECKS.due("getAs(0, " + bad + ", 4)", full().getAs(AN_ITEM, bad, INT), REFUSED);
        }
        for (int bad : outside(0, 7)) {
            CHECKS.due("getAs(0, 0, " + bad + ")", full().getAs(AN_ITEM, WHOLE, bad), REFUSED);
        }
        CHECKS.due("getAs(0, 0, 0)", full().getAs(AN_ITEM, WHOLE, BOOLEAN), ARGUMENT);
        CHECKS.due("getAs(0, 0, 7)", full().getAs(AN_ITEM, WHOLE, DOUBLE), DONE);
        CHECKS.due("getAs(1, 8, 3)", full().getAs(A_SPECIAL, EXTRA, SHORT), DONE);
    }

    private static void getAsTellsLast() {
        CHECKS.sentence("Promise 6", "LAST is the value of a FIELD 0 .. 8 as one of kind 0 .. 7, TOLD.");
        int[][] due = {{WHOLE, INT, 22}, {WHOLE, LONG, 22}, {WHOLE, FLOAT, 176}, {WHOLE, DOUBLE, 176},
            {SMALL, BYTE, 0}, {SMALL, SHORT, 0}, {REAL, DOUBLE, 0}, {FIXED, INT, 7}, {FIXED, FLOAT, 56},
            {SHARED, LONG, 55}, {SHARED, FLOAT, 440}, {EXTRA, SHORT, 9}, {EXTRA, INT, 9}, {EXTRA, DOUBLE, 72}};
        for (int[] row : due) {
            MemberInspection x = full();
            String call = "getAs(1, " + row[0] + ", " + row[1] + ")";
            CHECKS.due(call, x.getAs(A_SPECIAL, row[0], row[1]), DONE);
            CHECKS.due(call, factsOf(x), fullFactsWithLast(row[2]));
        }
    }

    private static void getAsOfSharedLooksAtNoHandle() {
        CHECKS.sentence("Promise 6", "The handle as for get;");
        for (int handle = 0; handle <= RESULT; handle++) {
            MemberInspection x = full();
            CHECKS.due("getAs(" + handle + ", 7, 7)", x.getAs(handle, SHARED, DOUBLE), DONE);
            CHECKS.due("getAs(" + handle + ", 7, 7): last()", x.last(), 440);
            CHECKS.due("getAs(" + handle + ", 7, 4)", x.getAs(handle, SHARED, INT), ARGUMENT);
        }
    }

    private static void getAsLooksAtTheHandleFirst() {
        CHECKS.sentence("Promise 6", "The handle as for get; then: the FIELD is an object, or its kind does not WIDEN to the kind: ARGUMENT.");
        for (int field = WHOLE; field <= EXTRA; field++) {
            for (int kind = BOOLEAN; kind <= DOUBLE; kind++) {
                if (field != SHARED) {
                    String numbers = ", " + field + ", " + kind + ")";
                    CHECKS.due("getAs(4" + numbers, full().getAs(NOTHING, field, kind), NULL);
                    CHECKS.due("getAs(2" + numbers, full().getAs(A_TEXT, field, kind), ARGUMENT);
                    CHECKS.due("getAs(3" + numbers, full().getAs(A_PLAIN, field, kind), ARGUMENT);
                    CHECKS.due("getAs(8" + numbers, full().getAs(RESULT, field, kind), ARGUMENT);
                }
            }
        }
        CHECKS.due("getAs(0, 8, 3)", full().getAs(AN_ITEM, EXTRA, SHORT), ARGUMENT);
    }

    private static void getAsRefusesObjects() {
        CHECKS.sentence("Promise 6", "the FIELD is an object, or its kind does not WIDEN to the kind: ARGUMENT.");
        for (int kind = BOOLEAN; kind <= DOUBLE; kind++) {
            for (int field = TEXT; field <= NEXT; field++) {
                CHECKS.due("getAs(0, " + field + ", " + kind + ")", full().getAs(AN_ITEM, field, kind), ARGUMENT);
                CHECKS.due("getAs(1, " + field + ", " + kind + ")", full().getAs(A_SPECIAL, field, kind), ARGUMENT);
            }
            MemberInspection x = full();
            setTo(x, AN_ITEM, ANY, kind, 1);
            CHECKS.due("getAs(0, 4, " + kind + ") of a box of the kind", x.getAs(AN_ITEM, ANY, kind), ARGUMENT);
            CHECKS.due("last() of it", x.last(), 0);
        }
    }

    private static void getAsRefusesNarrowing() {
        CHECKS.sentence("Promise 6", "its kind does not WIDEN to the kind: ARGUMENT. DONE.");
        int[] fields = {WHOLE, SMALL, REAL, FIXED, SHARED, EXTRA};
        // A digit for each kind: the values themselves are 0 or 7 or 55 and would fit.
        String[] widens = {"00001111", "01011111", "00000001", "00001111", "00000111", "00011111"};
        for (int i = 0; i < fields.length; i++) {
            for (int kind = BOOLEAN; kind <= DOUBLE; kind++) {
                MemberInspection x = full();
                boolean isRead = widens[i].charAt(kind) == '1';
                String call = "getAs(1, " + fields[i] + ", " + kind + ")";
                CHECKS.due(call, x.getAs(A_SPECIAL, fields[i], kind), isRead ? DONE : ARGUMENT);
                if (!isRead) {
                    CHECKS.due(call, factsOf(x), fullFactsWithLast(0));
                }
            }
        }
    }

    private static void setTakesItsNumbers() {
        CHECKS.sentence("Promise 7", "Sets a FIELD 0 .. 8 to what the handle 'from', 0 .. 8, holds.");
        for (int bad : outside(0, 8)) {
            CHECKS.due("set(" + bad + ", 0, 7)", full().set(bad, WHOLE, A_BYTE), REFUSED);
            CHECKS.due("set(" + bad + ", 7, 7)", full().set(bad, SHARED, A_BYTE), REFUSED);
            CHECKS.due("set(0, " + bad + ", 7)", full().set(AN_ITEM, bad, A_BYTE), REFUSED);
            CHECKS.due("set(0, 4, " + bad + ")", full().set(AN_ITEM, ANY, bad), REFUSED);
        }
        CHECKS.due("set(1, 0, 8)", full().set(A_SPECIAL, WHOLE, RESULT), DONE);
        CHECKS.due("set(1, 8, 7)", full().set(A_SPECIAL, EXTRA, A_BYTE), DONE);
        CHECKS.due("set(8, 7, 8)", full().set(RESULT, SHARED, RESULT), DONE);
        CHECKS.due("set(0, 4, 0)", full().set(AN_ITEM, ANY, AN_ITEM), DONE);
    }

    private static void setChangesTheFieldAlone() {
        CHECKS.sentence("Promise 7", "Sets a FIELD 0 .. 8 to what the handle 'from', 0 .. 8, holds.");
        int[] fields = {WHOLE, SMALL, REAL, TEXT, ANY, NEXT, SHARED, EXTRA};
        int[] froms = {RESULT, A_BYTE, RESULT, NOTHING, NOTHING, NOTHING, A_BYTE, A_BYTE};
        for (int i = 0; i < fields.length; i++) {
            for (int handle = fields[i] == EXTRA ? A_SPECIAL : AN_ITEM; handle <= A_SPECIAL; handle++) {
                dueAlone(handle, fields[i], froms[i]);
            }
        }
    }

    private static void dueAlone(int handle, int field, int from) {
        MemberInspection x = full();
        String call = "set(" + handle + ", " + field + ", " + from + ")";
        CHECKS.due(call, x.set(handle, field, from), DONE);
        List<String> got = factsOf(x);
        List<String> want = fullFactsWithLast(0);
        for (int owner = AN_ITEM; owner <= A_SPECIAL; owner++) {
            if (owner == handle || field == SHARED) {
                int place = placeOfField(owner, field);
                want.set(place, got.get(place));
            }
        }
        CHECKS.due(call, got, want);
    }

    private static void setLooksAtTheHandleFirst() {
        CHECKS.sentence("Promise 7", "The handle as for get;");
        for (int field = WHOLE; field <= EXTRA; field++) {
            for (int handle = 0; handle <= RESULT; handle++) {
                int due = dueOwner(handle, field);
                for (int from = 0; due != DONE && from <= RESULT; from++) {
                    MemberInspection x = full();
                    String call = "set(" + handle + ", " + field + ", " + from + ")";
                    CHECKS.due(call, x.set(handle, field, from), due);
                    CHECKS.due(call, factsOf(x), fullFactsWithLast(0));
                }
            }
        }
    }

    private static void setOfSharedLooksAtNoHandle() {
        CHECKS.sentence("Promise 7", "The handle as for get;");
        for (int handle = 0; handle <= RESULT; handle++) {
            MemberInspection x = full();
            CHECKS.due("set(" + handle + ", 7, 2)", x.set(handle, SHARED, A_TEXT), ARGUMENT);
            CHECKS.due("set(" + handle + ", 7, 4)", x.set(handle, SHARED, NOTHING), ARGUMENT);
            CHECKS.due("set(" + handle + ", 7, 7)", x.set(handle, SHARED, A_BYTE), DONE);
            dueField("shared", x, NOTHING, SHARED, LONG + 1, 3);
        }
    }

    private static void setRefusesFixedNext() {
        CHECKS.sentence("Promise 7", "then fixed: FINAL;");
        for (int from = 0; from <= RESULT; from++) {
            for (int handle : new int[] {AN_ITEM, A_SPECIAL, ITEM_AGAIN}) {
                MemberInspection x = full();
                String call = "set(" + handle + ", 6, " + from + ")";
                CHECKS.due(call, x.set(handle, FIXED, from), FINAL);
                CHECKS.due(call, factsOf(x), fullFactsWithLast(0));
            }
            CHECKS.due("set(4, 6, " + from + ")", full().set(NOTHING, FIXED, from), NULL);
            CHECKS.due("set(2, 6, " + from + ")", full().set(A_TEXT, FIXED, from), ARGUMENT);
        }
    }

    private static void setRefusesWhatDoesNotConvertLast() {
        CHECKS.sentence("Promise 7", "then, if it does not CONVERT to the FIELD's kind or class: ARGUMENT.");
        // A digit for each handle of full(), RESULT too: 1 where the field takes what it holds.
        String[] taken = {"000001011", "000000010", "000001011", "001010000", "111111111", "110010100", "",
            "000001011", "000001010"};
        for (int field = WHOLE; field <= EXTRA; field++) {
            for (int from = 0; field != FIXED && from <= RESULT; from++) {
                MemberInspection x = full();
                boolean isTaken = taken[field].charAt(from) == '1';
                String call = "set(1, " + field + ", " + from + ")";
                CHECKS.due(call, x.set(A_SPECIAL, field, from), isTaken ? DONE : ARGUMENT);
                if (!isTaken) {
                    CHECKS.due(call, factsOf(x), fullFactsWithLast(0));
                }
            }
        }
    }

    private static void setNeverNarrows() {
        CHECKS.sentence("Promise 7", "then, if it does not CONVERT to the FIELD's kind or class: ARGUMENT.");
        int[][] tooWide = {{SMALL, SHORT}, {SMALL, CHAR}, {SMALL, INT}, {SMALL, LONG}, {EXTRA, CHAR}, {EXTRA, INT},
            {EXTRA, LONG}, {WHOLE, LONG}, {WHOLE, FLOAT}, {WHOLE, DOUBLE}, {SHARED, FLOAT}, {SHARED, DOUBLE},
            {SMALL, BOOLEAN}, {EXTRA, BOOLEAN}, {WHOLE, BOOLEAN}, {SHARED, BOOLEAN}, {REAL, BOOLEAN}};
        for (int[] row : tooWide) {
            MemberInspection x = full();
            x.put(A_ZERO, row[1], 0);
            String call = "set(1, " + row[0] + ", 5) to 0 of kind " + row[1];
            CHECKS.due(call, x.set(A_SPECIAL, row[0], A_ZERO), ARGUMENT);
            CHECKS.due(call + ": last()", x.last(), 0);
        }
    }

    private static void dueSet(int field, int kind, long v, int sort, long told) {
        MemberInspection x = full();
        x.put(A_ZERO, kind, v);
        String call = "set(1, " + field + ", 5) to " + v + " of kind " + kind;
        CHECKS.due(call, x.set(A_SPECIAL, field, A_ZERO), DONE);
        CHECKS.due(call + ": last()", x.last(), 0);
        dueIn(call + ": RESULT stays", x, RESULT, INT + 1, 77);
        dueIn(call + ": the box stays", x, A_ZERO, kind + 1, v);
        dueField(call, x, A_SPECIAL, field, sort, told);
    }

    private static void setConverts() {
        CHECKS.sentence("Promise 7", "Else the FIELD is what it is converted to. DONE.");
        dueSet(WHOLE, BYTE, -128, INT + 1, -128);
        dueSet(WHOLE, CHAR, 65535, INT + 1, 65535);
        dueSet(WHOLE, SHORT, -32768, INT + 1, -32768);
        dueSet(WHOLE, INT, Integer.MIN_VALUE, INT + 1, Integer.MIN_VALUE);
        dueSet(SMALL, BYTE, 127, BYTE + 1, 127);
        dueSet(EXTRA, BYTE, -128, SHORT + 1, -128);
        dueSet(EXTRA, SHORT, 32767, SHORT + 1, 32767);
        dueSet(SHARED, CHAR, 65535, LONG + 1, 65535);
        dueSet(SHARED, INT, Integer.MAX_VALUE, LONG + 1, Integer.MAX_VALUE);
        dueSet(SHARED, LONG, Long.MIN_VALUE, LONG + 1, Long.MIN_VALUE);
        dueSet(REAL, BYTE, -1, DOUBLE + 1, -8);
        dueSet(REAL, CHAR, 65535, DOUBLE + 1, 524280);
        dueSet(REAL, INT, Integer.MIN_VALUE, DOUBLE + 1, -17179869184L);
        dueSet(REAL, LONG, 9007199254740993L, DOUBLE + 1, 72057594037927936L);
        dueSet(REAL, LONG, Long.MAX_VALUE, DOUBLE + 1, Long.MAX_VALUE);
        dueSet(REAL, FLOAT, -1, DOUBLE + 1, -1);
        dueSet(REAL, DOUBLE, Long.MIN_VALUE, DOUBLE + 1, Long.MIN_VALUE);
        dueSet(ANY, FLOAT, 5, FLOAT + 1, 5);
        dueSet(ANY, BOOLEAN, 1, BOOLEAN + 1, 1);
    }

    private static void setHoldsTheObjectItself() {
        CHECKS.sentence("Promise 7", "Else the FIELD is what it is converted to. DONE.");
        MemberInspection x = full();
        x.set(A_SPECIAL, NEXT, A_SPECIAL);
        x.set(A_SPECIAL, ANY, AN_ITEM);
        x.get(A_SPECIAL, NEXT);
        CHECKS.due("next is the SPECIAL itself", x.look(RESULT, true), A_SPECIAL);
        x.get(A_SPECIAL, ANY);
        CHECKS.due("any is the ITEM", x.look(RESULT, true), AN_ITEM);
        setTo(x, RESULT, WHOLE, INT, 5);
        dueField("whole set by way of any", x, AN_ITEM, WHOLE, INT + 1, 5);
        x.put(A_TEXT, SORT_TEXT, 1);
        dueField("text after another TEXT is put", x, AN_ITEM, TEXT, 9, 6);
        x.hold(A_PLAIN, -1);
        dueField("any after its handle is null", x, AN_ITEM, ANY, 12, 0);
    }

    private static void setTakesNullForObjects() {
        CHECKS.sentence("Terms", "It CONVERTS to TEXT, ITEM or any object if it is null or one of these.");
        for (int field = TEXT; field <= NEXT; field++) {
            MemberInspection x = full();
            CHECKS.due("set(0, " + field + ", 4)", x.set(AN_ITEM, field, NOTHING), DONE);
            dueField("a field set to null", x, AN_ITEM, field, 0, 0);
            CHECKS.due("set(0, " + field + ", 4) again", x.set(AN_ITEM, field, NOTHING), DONE);
        }
    }
}
