import java.util.ArrayList;
import java.util.List;

/**
 * What the tests of the document's sentences share: its numbers by their names, and a state with
 * an object of every sort.
 */
abstract class Sentences {

    static final Checks CHECKS = new Checks();

    static final int DONE = MemberInspection.DONE;
    static final int NULL = MemberInspection.NULL;
    static final int ARGUMENT = MemberInspection.ARGUMENT;
    static final int FINAL = MemberInspection.FINAL;
    static final int TARGET = MemberInspection.TARGET;
    static final int MISSING = MemberInspection.MISSING;
    static final int ABSTRACT = MemberInspection.ABSTRACT;
    static final int CAST = MemberInspection.CAST;
    static final int REFUSED = MemberInspection.REFUSED;

    static final int BOOLEAN = 0;
    static final int BYTE = 1;
    static final int CHAR = 2;
    static final int SHORT = 3;
    static final int INT = 4;
    static final int LONG = 5;
    static final int FLOAT = 6;
    static final int DOUBLE = 7;
    static final int SORT_TEXT = 8;

    static final int WHOLE = 0;
    static final int SMALL = 1;
    static final int REAL = 2;
    static final int TEXT = 3;
    static final int ANY = 4;
    static final int NEXT = 5;
    static final int FIXED = 6;
    static final int SHARED = 7;
    static final int EXTRA = 8;

    static final int SUM = 0;
    static final int TAG = 1;
    static final int TWICE = 2;
    static final int DIV = 3;
    static final int PICK = 4;
    static final int SELF = 5;

    static final int ROOT_CLASS = 0;
    static final int NUMBER_CLASS = 1;
    static final int INTEGER_CLASS = 2;
    static final int TEXT_CLASS = 3;
    static final int THING = 4;
    static final int ITEM_CLASS = 5;
    static final int SPECIAL_CLASS = 6;
    static final int ROUGH_CLASS = 7;
    static final int INT_TYPE = 8;
    static final int INT_ARRAY = 9;
    static final int ROOT_ARRAY = 10;
    static final int ITEM_ARRAY = 11;
    static final int SPECIAL_ARRAY = 12;

    // What full() holds in its handles; its RESULT is the INT 77.
    static final int AN_ITEM = 0;
    static final int A_SPECIAL = 1;
    static final int A_TEXT = 2;
    static final int A_PLAIN = 3;
    static final int NOTHING = 4;
    static final int A_ZERO = 5;
    static final int ITEM_AGAIN = 6;
    static final int A_BYTE = 7;
    static final int RESULT = 8;

    /** An object of every sort, no field of the ITEM at its first value, shared 55 and LAST 11. */
    static MemberInspection full() {
        MemberInspection x = new MemberInspection();
        x.make(ROOT_CLASS, false, 0);
        x.hold(A_PLAIN, RESULT);
        x.make(SPECIAL_CLASS, true, 21);
        x.hold(A_SPECIAL, RESULT);
        x.make(ITEM_CLASS, true, 11);
        x.hold(AN_ITEM, RESULT);
        x.hold(ITEM_AGAIN, RESULT);
        x.put(A_TEXT, SORT_TEXT, 6);
        setTo(x, AN_ITEM, SMALL, BYTE, 3);
        setTo(x, AN_ITEM, REAL, DOUBLE, 12);
        setTo(x, A_SPECIAL, EXTRA, SHORT, 9);
        setTo(x, NOTHING, SHARED, LONG, 55);
        x.set(AN_ITEM, TEXT, A_TEXT);
        x.set(AN_ITEM, ANY, A_PLAIN);
        x.set(AN_ITEM, NEXT, A_SPECIAL);
        x.set(A_SPECIAL, NEXT, AN_ITEM);
        x.put(A_ZERO, SHORT, 0);
        x.put(A_BYTE, BYTE, 3);
        x.make(INTEGER_CLASS, true, 77);
        x.getAs(AN_ITEM, WHOLE, INT);
        return x;
    }

    /** Sets a field by way of the handle of the zero, which holds the box from then on. */
    static void setTo(MemberInspection x, int handle, int field, int kind, long v) {
        x.put(A_ZERO, kind, v);
        x.set(handle, field, A_ZERO);
    }

    /** All that can be seen of a state; the looking itself changes LAST and RESULT. */
    static List<String> factsOf(MemberInspection x) {
        List<String> facts = new ArrayList<>();
        facts.add("LAST " + x.last());
        for (int handle = 0; handle <= RESULT; handle++) {
            facts.add("handle " + handle + ": " + objectIn(x, handle));
        }
        for (int handle = AN_ITEM; handle <= A_SPECIAL; handle++) {
            for (int field = WHOLE; field <= EXTRA; field++) {
                // After a refusal RESULT would tell of the field before.
                boolean isThere = x.get(handle, field) == DONE;
                String told = isThere ? objectIn(x, RESULT) : "refused";
                facts.add("field " + field + " of " + handle + ": " + told);
            }
        }
        return facts;
    }

    /** Where factsOf tells the field: behind LAST and the handles. */
    static int placeOfField(int handle, int field) {
        return 2 + RESULT + handle * (EXTRA + 1) + field;
    }

    private static String objectIn(MemberInspection x, int handle) {
        return "sort " + x.look(handle, false) + " same " + x.look(handle, true) + " value " + x.value(handle);
    }

    /** The state of full(), but for LAST. */
    static List<String> fullFactsWithLast(long last) {
        List<String> facts = factsOf(full());
        facts.set(0, "LAST " + last);
        return facts;
    }

    /** Numbers just outside of least .. most, and far outside. */
    static int[] outside(int least, int most) {
        return new int[] {least - 1, most + 1, Integer.MIN_VALUE, Integer.MAX_VALUE};
    }

    static void dueIn(String call, MemberInspection x, int handle, int sort, long value) {
        CHECKS.due(call + ": sort in handle " + handle, x.look(handle, false), sort);
        CHECKS.due(call + ": value in handle " + handle, x.value(handle), value);
    }

    static void dueField(String call, MemberInspection x, int handle, int field, int sort, long value) {
        CHECKS.due(call + ": get(" + handle + ", " + field + ")", x.get(handle, field), DONE);
        dueIn(call, x, RESULT, sort, value);
    }
}
