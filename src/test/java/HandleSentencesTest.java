/** The sentences of promises 1 a new object, 2 put, 3 hold, 10 last, 11 look and 12 value. */
public final class HandleSentencesTest extends Sentences {

    public static void main(String[] args) {
        newObjectsAreEmpty();
        putTakesItsNumbers();
        putMakesTextsOfOneDigit();
        putIsHeldByTheHandleAlone();
        holdTakesItsNumbers();
        holdSharesTheObject();
        lastIsOfTheLatestRequest();
        lookTellsTheSort();
        lookTellsTheLeastHandle();
        lookTellsNoHandle();
        valueIsAsTold();
        valueOfAnotherObjectIsZero();
        valueOfABadHandle();
        CHECKS.end();
    }

    private static void newObjectsAreEmpty() {
        CHECKS.sentence("Promise 1", "All handles null; shared is 100.");
        full();
        MemberInspection x = new MemberInspection();
        for (int handle = 0; handle <= RESULT; handle++) {
            dueIn("new MemberInspection()", x, handle, 0, 0);
            CHECKS.due("look(" + handle + ", true)", x.look(handle, true), -2);
        }
        dueField("new MemberInspection()", x, 0, SHARED, LONG + 1, 100);
    }

    private static void putTakesItsNumbers() {
        CHECKS.sentence("Promise 2", "to 0 .. 7, sort 0 .. 8: a new box of that kind with the value v MADE;");
        for (int to = -1; to <= 8; to++) {
            for (int sort = -1; sort <= 9; sort++) {
                boolean isGood = to >= 0 && to <= 7 && sort >= 0 && sort <= 8;
                MemberInspection x = new MemberInspection();
                String call = "put(" + to + ", " + sort + ", 1)";
                CHECKS.due(call, x.put(to, sort, 1), isGood ? DONE : REFUSED);
                for (int handle = 0; handle <= RESULT; handle++) {
                    boolean isPut = isGood && handle == to;
                    dueIn(call, x, handle, isPut ? sort + 1 : 0, isPut ? 1 : 0);
                }
            }
        }
    }

    private static void putMakesTextsOfOneDigit() {
        CHECKS.sentence("Promise 2", "8: a TEXT with number v modulo 10 (as a number 0 .. 9).");
        long[] pairs = {0, 0, 9, 9, 10, 0, 11, 1, -1, 9, -9, 1, -10, 0, -11, 9, 4294967296L, 6,
            Long.MAX_VALUE, 7, Long.MIN_VALUE, 2};
        for (int i = 0; i < pairs.length; i += 2) {
            MemberInspection x = new MemberInspection();
            CHECKS.due("put(7, 8, " + pairs[i] + ")", x.put(7, SORT_TEXT, pairs[i]), DONE);
            dueIn("put(7, 8, " + pairs[i] + ")", x, 7, 9, pairs[i + 1]);
        }
    }

    private static void putIsHeldByTheHandleAlone() {
        CHECKS.sentence("Promise 2", "The handle holds it. DONE.");
        MemberInspection x = full();
        CHECKS.due("put(0, 3, 65535)", x.put(AN_ITEM, SHORT, 65535), DONE);
        dueIn("put over an ITEM", x, AN_ITEM, SHORT + 1, -1);
        dueIn("the ITEM is held elsewhere", x, ITEM_AGAIN, 10, 0);
        dueIn("RESULT stays", x, RESULT, INT + 1, 77);
        CHECKS.due("put(6, 8, 5)", x.put(ITEM_AGAIN, SORT_TEXT, 5), DONE);
        x.get(A_SPECIAL, NEXT);
        dueIn("the ITEM is in a field yet", x, RESULT, 10, 0);
        CHECKS.due("no handle holds the ITEM", x.look(RESULT, true), -2);
    }

    private static void holdTakesItsNumbers() {
        CHECKS.sentence("Promise 3", "to 0 .. 7, from -1 .. 8: the handle holds what 'from' holds, null for -1.");
        int[] sorts = {0, 10, 11, 9, 12, 0, 4, 10, 2, 5};
        for (int to = -1; to <= 8; to++) {
            for (int from = -2; from <= 9; from++) {
                boolean isGood = to >= 0 && to <= 7 && from >= -1 && from <= 8;
                MemberInspection x = full();
                String call = "hold(" + to + ", " + from + ")";
                CHECKS.due(call, x.hold(to, from), isGood ? DONE : REFUSED);
                for (int handle = 0; handle <= RESULT; handle++) {
                    boolean isHeld = isGood && handle == to;
                    CHECKS.due(call + ": sort in " + handle, x.look(handle, false), sorts[(isHeld ? from : handle) + 1]);
                }
            }
        }
    }

    private static void holdSharesTheObject() {
        CHECKS.sentence("Promise 3", "the handle holds what 'from' holds, null for -1. DONE.");
        MemberInspection x = full();
        x.hold(A_BYTE, A_SPECIAL);
        CHECKS.due("look(7, true)", x.look(A_BYTE, true), A_SPECIAL);
        setTo(x, A_BYTE, WHOLE, INT, 5);
        dueField("whole by the other handle", x, A_SPECIAL, WHOLE, INT + 1, 5);
        x.hold(A_SPECIAL, -1);
        CHECKS.due("look(7, true) after hold(1, -1)", x.look(A_BYTE, true), A_BYTE);
        x.hold(A_BYTE, NOTHING);
        dueIn("hold of a handle that holds null", x, A_BYTE, 0, 0);
    }

    private static void lastIsOfTheLatestRequest() {
        CHECKS.sentence("Promise 10", "LAST of the latest request.");
        MemberInspection x = full();
        CHECKS.due("last()", x.last(), 11);
        CHECKS.due("last() again", x.last(), 11);
        CHECKS.due("getAs(0, 9, 4)", x.getAs(AN_ITEM, 9, INT), REFUSED);
        CHECKS.due("last() after a call that is out of range", x.last(), 11);
        CHECKS.due("getAs(0, 0, 1)", x.getAs(AN_ITEM, WHOLE, BYTE), ARGUMENT);
        CHECKS.due("last() after a refusal", x.last(), 0);
        CHECKS.due("getAs(0, 6, 7)", x.getAs(AN_ITEM, FIXED, DOUBLE), DONE);
        CHECKS.due("last() of fixed as a DOUBLE", x.last(), 56);
        CHECKS.due("invoke(0, 4, 1, 36)", x.invoke(AN_ITEM, PICK, 1, NOTHING * 9), TARGET);
        CHECKS.due("last() of a failure", x.last(), 2);
        CHECKS.due("hold(0, 0)", x.hold(AN_ITEM, AN_ITEM), DONE);
        CHECKS.due("last() of hold", x.last(), 0);
    }

    private static void lookTellsTheSort() {
        CHECKS.sentence("Promise 11", "The sort of what the handle 0 .. 8 holds: 0 null, 1 .. 8 a box of kind 0 .. 7, 9 a TEXT, "
            + "10 an ITEM that is no SPECIAL, 11 a SPECIAL, 12 a PLAIN object;");
        int[] sorts = {10, 11, 9, 12, 0, 4, 10, 2, 5};
        MemberInspection x = full();
        for (int handle = 0; handle <= RESULT; handle++) {
            CHECKS.due("look(" + handle + ", false)", x.look(handle, false), sorts[handle]);
        }
        for (int kind = BOOLEAN; kind <= DOUBLE; kind++) {
            x.put(7, kind, 0);
            CHECKS.due("look(7, false) of kind " + kind, x.look(7, false), kind + 1);
        }
        for (int bad : outside(0, 8)) {
            CHECKS.due("look(" + bad + ", false)", x.look(bad, false), REFUSED);
            CHECKS.due("look(" + bad + ", true)", x.look(bad, true), REFUSED);
        }
    }

    private static void lookTellsTheLeastHandle() {
        CHECKS.sentence("Promise 11", "and with same: the least handle 0 .. 7 that holds the same ITEM or PLAIN object,");
        for (int from : new int[] {AN_ITEM, A_SPECIAL, A_PLAIN}) {
            MemberInspection x = full();
            x.cast(from, ROOT_CLASS);
            for (int handle = 0; handle <= 7; handle++) {
                x.hold(handle, -1);
            }
            for (int least = 7; least >= 0; least--) {
                x.hold(least, RESULT);
                for (int handle = least; handle <= RESULT; handle++) {
                    CHECKS.due("look(" + handle + ", true) of " + from, x.look(handle, true), least);
                }
            }
        }
    }

    private static void lookTellsNoHandle() {
        CHECKS.sentence("Promise 11", "-2 if none does or it holds no such object.");
        MemberInspection x = full();
        for (int handle : new int[] {A_TEXT, NOTHING, A_ZERO, A_BYTE, RESULT}) {
            CHECKS.due("look(" + handle + ", true)", x.look(handle, true), -2);
        }
        for (int type : new int[] {ROOT_CLASS, ITEM_CLASS, SPECIAL_CLASS}) {
            x.make(type, type == SPECIAL_CLASS, 1);
            CHECKS.due("look(8, true) of a new one of type " + type, x.look(RESULT, true), -2);
        }
        x.hold(7, A_TEXT);
        CHECKS.due("look(7, true) of a TEXT in two handles", x.look(7, true), -2);
        x.hold(7, A_ZERO);
        CHECKS.due("look(7, true) of a box in two handles", x.look(7, true), -2);
    }

    private static void valueIsAsTold() {
        CHECKS.sentence("Promise 12", "The value of a box as TOLD, the number of a TEXT;");
        long[] made = {1, -1, 65535, -1, -1, -1, -1, -1, 9};
        long[] least = {0, 0, 0, 0, 0, Long.MIN_VALUE, Long.MIN_VALUE, Long.MIN_VALUE, 2};
        MemberInspection x = new MemberInspection();
        for (int sort = BOOLEAN; sort <= SORT_TEXT; sort++) {
            x.put(0, sort, -1);
            CHECKS.due("value(0) of sort " + sort, x.value(0), made[sort]);
            x.put(7, sort, Long.MIN_VALUE);
            CHECKS.due("value(7) of sort " + sort, x.value(7), least[sort]);
        }
    }

    private static void valueOfAnotherObjectIsZero() {
        CHECKS.sentence("Promise 12", "0 for another object or null;");
        MemberInspection x = full();
        for (int handle : new int[] {AN_ITEM, A_SPECIAL, A_PLAIN, NOTHING, ITEM_AGAIN}) {
            CHECKS.due("value(" + handle + ")", x.value(handle), 0);
        }
        x.cast(A_SPECIAL, THING);
        CHECKS.due("value(8) of a SPECIAL", x.value(RESULT), 0);
    }

    private static void valueOfABadHandle() {
        CHECKS.sentence("Promise 12", "for a bad handle -1.");
        for (int bad : outside(0, 8)) {
            CHECKS.due("value(" + bad + ")", full().value(bad), -1);
            CHECKS.due("value(" + bad + ") of a new object", new MemberInspection().value(bad), -1);
        }
        MemberInspection x = new MemberInspection();
        x.put(0, INT, -1);
        CHECKS.due("value(0) of the INT -1", x.value(0), -1);
    }
}
