import java.util.function.ToIntFunction;
import java.util.function.ToLongFunction;

/** The sentences of the Terms on the state: fields, handles, RESULT, LAST, and calls that are refused. */
public final class StateSentencesTest extends Sentences {

    private static final String NUMBERS_FIRST =
        "Every call tests its numbers first: out of range answers REFUSED, and nothing changes.";
    private static final String RESULT_STAYS = "after a refusal RESULT stays.";
    private static final String LAST_IS_ZERO =
        "A request (all calls but last, look, value and typed) sets LAST to 0 where nothing else is said;";

    public static void main(String[] args) {
        fiveHundredAndTwelveCalls();
        objectsAreOfFiveSorts();
        boxesHaveAKindAndAValue();
        textsHaveOneDigit();
        specialIsAlsoAnItem();
        specialPassesForAnItem();
        fieldsHoldTheirKinds();
        fieldsHoldObjectsOrNull();
        fieldsAtFirst();
        fixedIsAlwaysSeven();
        sharedBelongsToNone();
        extraOfASpecialAlone();
        handlesAtFirst();
        handlesAreZeroToSeven();
        resultAtFirst();
        handleEightIsReadAlone();
        handleEightIsReadByEachCall();
        lastAtFirst();
        putAndHoldTestNumbersFirst();
        makeAndCastTestNumbersFirst();
        getAndGetAsTestNumbersFirst();
        setTestsNumbersFirst();
        invokeTestsNumbersFirst();
        looksTestNumbersFirst();
        requestsSetLastToZero();
        otherCallsKeepLast();
        resultStaysAfterNull();
        resultStaysAfterArgument();
        resultStaysAfterFinalMissingAbstractAndCast();
        resultStaysAfterTarget();
        CHECKS.end();
    }

    private static void fiveHundredAndTwelveCalls() {
        CHECKS.sentence("What it is", "An object is used for at most 512 calls after it has been made; what later calls answer is free.");
        MemberInspection x = new MemberInspection();
        for (int i = 1; i <= 128; i++) {
            CHECKS.due("call " + (4 * i - 3) + ": put", x.put(7, LONG, i), DONE);
            CHECKS.due("call " + (4 * i - 2) + ": set shared", x.set(0, SHARED, 7), DONE);
            CHECKS.due("call " + (4 * i - 1) + ": getAs shared", x.getAs(0, SHARED, LONG), DONE);
            CHECKS.due("call " + 4 * i + ": last", x.last(), i);
        }
        MemberInspection y = new MemberInspection();
        for (int i = 1; i <= 256; i++) {
            CHECKS.due("call " + (2 * i - 1) + ": make", y.make(ITEM_CLASS, true, i), DONE);
            CHECKS.due("call " + 2 * i + ": look", y.look(RESULT, true), -2);
        }
    }

    private static void objectsAreOfFiveSorts() {
        CHECKS.sentence("Terms", "OBJECTS: a BOX of a kind with a value; a TEXT with a number 0 .. 9; an ITEM; a SPECIAL, "
            + "which is also an ITEM; a PLAIN object.");
        MemberInspection x = full();
        dueIn("a BOX", x, A_BYTE, BYTE + 1, 3);
        dueIn("a TEXT", x, A_TEXT, 9, 6);
        dueIn("an ITEM", x, AN_ITEM, 10, 0);
        dueIn("a SPECIAL", x, A_SPECIAL, 11, 0);
        dueIn("a PLAIN object", x, A_PLAIN, 12, 0);
        for (int handle : new int[] {A_BYTE, A_TEXT, A_PLAIN}) {
            CHECKS.due("get(" + handle + ", 6) of no ITEM", x.get(handle, FIXED), ARGUMENT);
        }
        CHECKS.due("get(0, 6) of an ITEM", x.get(AN_ITEM, FIXED), DONE);
        CHECKS.due("get(1, 6) of a SPECIAL", x.get(A_SPECIAL, FIXED), DONE);
    }

    private static void boxesHaveAKindAndAValue() {
        CHECKS.sentence("Terms", "OBJECTS: a BOX of a kind with a value;");
        MemberInspection x = new MemberInspection();
        for (int kind = BOOLEAN; kind <= DOUBLE; kind++) {
            x.put(kind, kind, kind % 2);
        }
        for (int kind = BOOLEAN; kind <= DOUBLE; kind++) {
            dueIn("a BOX of kind " + kind, x, kind, kind + 1, kind % 2);
        }
    }

    private static void textsHaveOneDigit() {
        CHECKS.sentence("Terms", "a TEXT with a number 0 .. 9;");
        for (int v = -20; v <= 20; v++) {
            MemberInspection x = new MemberInspection();
            x.put(0, SORT_TEXT, v);
            dueIn("put(0, 8, " + v + ")", x, 0, 9, (v + 20) % 10);
        }
    }

    private static void specialIsAlsoAnItem() {
        CHECKS.sentence("Terms", "a SPECIAL, which is also an ITEM;");
        int[] sorts = {5, 2, 8, 0, 0, 10, 5, 6, 4};
        long[] values = {22, 0, 0, 0, 0, 0, 7, 55, 9};
        int[] counts = {2, 2, 1, 2, 1, 1};
        int[] firsts = {A_BYTE, A_TEXT, A_BYTE, A_BYTE, A_SPECIAL, A_BYTE};
        for (int field = WHOLE; field <= EXTRA; field++) {
            dueField("a SPECIAL", full(), A_SPECIAL, field, sorts[field], values[field]);
        }
        for (int method = SUM; method <= SELF; method++) {
            int xy = firsts[method] * 9 + A_BYTE;
            CHECKS.due("method " + method + " of a SPECIAL", full().invoke(A_SPECIAL, method, counts[method], xy), DONE);
        }
    }

    private static void specialPassesForAnItem() {
        CHECKS.sentence("Terms", "a SPECIAL, which is also an ITEM;");
        CHECKS.due("next of an ITEM", full().set(AN_ITEM, NEXT, A_SPECIAL), DONE);
        CHECKS.due("pick of an ITEM", full().invoke(AN_ITEM, PICK, 1, A_SPECIAL * 9), DONE);
        CHECKS.due("cast to ITEM", full().cast(A_SPECIAL, ITEM_CLASS), DONE);
        CHECKS.due("look(1, true)", full().look(A_SPECIAL, true), A_SPECIAL);
    }

    private static void fieldsHoldTheirKinds() {
        CHECKS.sentence("Terms", "An ITEM (a SPECIAL too) has FIELDS: 0 whole INT, 1 small BYTE, 2 real DOUBLE,");
        for (int handle = AN_ITEM; handle <= A_SPECIAL; handle++) {
            dueHolds(handle, WHOLE, INT, Integer.MAX_VALUE, Integer.MIN_VALUE, 0);
            dueHolds(handle, SMALL, BYTE, 127, -128, 0);
            dueHolds(handle, REAL, DOUBLE, Long.MAX_VALUE, Long.MIN_VALUE, 0, 9007199254740991L);
        }
    }

    private static void dueHolds(int handle, int field, int kind, long... values) {
        MemberInspection x = full();
        for (long v : values) {
            setTo(x, handle, field, kind, v);
            dueField("set to " + v, x, handle, field, kind + 1, v);
        }
    }

    private static void fieldsHoldObjectsOrNull() {
        CHECKS.sentence("Terms", "3 text (a TEXT or null), 4 any (any object or null), 5 next (an ITEM or null),");
        // A digit for each handle of full(), RESULT too: 1 where the field may hold what it holds.
        String[] held = {"001010000", "111111111", "110010100"};
        int[] sorts = {10, 11, 9, 12, 0, 4, 10, 2, 5};
        for (int field = TEXT; field <= NEXT; field++) {
            for (int from = 0; from <= RESULT; from++) {
                MemberInspection x = full();
                boolean isHeld = held[field - TEXT].charAt(from) == '1';
                String call = "set(1, " + field + ", " + from + ")";
                CHECKS.due(call, x.set(A_SPECIAL, field, from), isHeld ? DONE : ARGUMENT);
                if (isHeld) {
                    x.get(A_SPECIAL, field);
                    CHECKS.due(call + ": sort", x.look(RESULT, false), sorts[from]);
                }
            }
        }
    }

    private static void fieldsAtFirst() {
        CHECKS.sentence("Terms", "Values are 0 and objects null at first, shared is 100.");
        for (int type = ITEM_CLASS; type <= SPECIAL_CLASS; type++) {
            MemberInspection x = new MemberInspection();
            x.make(type, true, type == SPECIAL_CLASS ? -1 : 0);
            x.hold(0, RESULT);
            String made = "a new object of type " + type;
            dueField(made, x, 0, WHOLE, INT + 1, 0);
            dueField(made, x, 0, SMALL, BYTE + 1, 0);
            dueField(made, x, 0, REAL, DOUBLE + 1, 0);
            dueField(made, x, 0, TEXT, 0, 0);
            dueField(made, x, 0, ANY, 0, 0);
            dueField(made, x, 0, NEXT, 0, 0);
            dueField(made, x, 0, SHARED, LONG + 1, 100);
        }
    }

    private static void fixedIsAlwaysSeven() {
        CHECKS.sentence("Terms", "6 fixed INT, which is final and always 7.");
        for (int type = ITEM_CLASS; type <= SPECIAL_CLASS; type++) {
            for (int argument : new int[] {0, 7, Integer.MAX_VALUE, Integer.MIN_VALUE}) {
                MemberInspection x = new MemberInspection();
                x.make(type, true, argument);
                x.hold(0, RESULT);
                x.put(1, INT, 8);
                dueField("fixed of type " + type, x, 0, FIXED, INT + 1, 7);
                CHECKS.due("set(0, 6, 1)", x.set(0, FIXED, 1), FINAL);
                dueField("fixed after set", x, 0, FIXED, INT + 1, 7);
                x.set(0, WHOLE, 1);
                dueField("fixed after set of whole", x, 0, FIXED, INT + 1, 7);
            }
        }
    }

    private static void sharedBelongsToNone() {
        CHECKS.sentence("Terms", "FIELD 7 shared LONG belongs to none: there is one.");
        for (int by = 0; by <= RESULT; by++) {
            MemberInspection x = full();
            x.put(A_ZERO, LONG, Long.MIN_VALUE + by);
            CHECKS.due("set(" + by + ", 7, 5)", x.set(by, SHARED, A_ZERO), DONE);
            for (int handle = 0; handle <= RESULT; handle++) {
                dueField("shared set by " + by, x, handle, SHARED, LONG + 1, Long.MIN_VALUE + by);
            }
            x.make(ITEM_CLASS, false, 0);
            dueField("shared after a new ITEM", x, RESULT, SHARED, LONG + 1, Long.MIN_VALUE + by);
            dueField("shared of another object", new MemberInspection(), 0, SHARED, LONG + 1, 100);
        }
    }

    private static void extraOfASpecialAlone() {
        CHECKS.sentence("Terms", "A SPECIAL has also 8 extra SHORT.");
        for (int handle = 0; handle <= RESULT; handle++) {
            int due = handle == A_SPECIAL ? DONE : handle == NOTHING ? NULL : ARGUMENT;
            CHECKS.due("get(" + handle + ", 8)", full().get(handle, EXTRA), due);
            CHECKS.due("getAs(" + handle + ", 8, 3)", full().getAs(handle, EXTRA, SHORT), due);
            CHECKS.due("set(" + handle + ", 8, 7)", full().set(handle, EXTRA, A_BYTE), due);
        }
        for (int v : new int[] {32767, -32768}) {
            MemberInspection x = full();
            setTo(x, A_SPECIAL, EXTRA, SHORT, v);
            dueField("extra " + v, x, A_SPECIAL, EXTRA, SHORT + 1, v);
        }
    }

    private static void handlesAtFirst() {
        CHECKS.sentence("Terms", "HANDLES 0 .. 7 hold an object or null (at first).");
        for (int handle = 0; handle <= RESULT; handle++) {
            dueIn("a new object", new MemberInspection(), handle, 0, 0);
        }
    }

    private static void handlesAreZeroToSeven() {
        CHECKS.sentence("Terms", "HANDLES 0 .. 7 hold an object or null (at first).");
        MemberInspection x = new MemberInspection();
        for (int handle = 0; handle <= 7; handle++) {
            CHECKS.due("put(" + handle + ", 4, 1)", x.put(handle, INT, handle + 1), DONE);
        }
        for (int handle = 0; handle <= 7; handle++) {
            dueIn("all handles are full", x, handle, INT + 1, handle + 1);
            CHECKS.due("hold(" + handle + ", -1)", x.hold(handle, -1), DONE);
            dueIn("after hold of null", x, handle, 0, 0);
        }
    }

    private static void resultAtFirst() {
        CHECKS.sentence("Terms", "RESULT is an object or null (at first);");
        MemberInspection x = new MemberInspection();
        dueIn("RESULT of a new object", x, RESULT, 0, 0);
        CHECKS.due("hold(0, 8) of null", x.hold(0, RESULT), DONE);
        CHECKS.due("get(8, 0) of null", x.get(RESULT, WHOLE), NULL);
        CHECKS.due("cast(8, 6) of null", x.cast(RESULT, SPECIAL_CLASS), DONE);
        CHECKS.due("make(0, false, 0)", x.make(ROOT_CLASS, false, 0), DONE);
        dueIn("RESULT of make", x, RESULT, 12, 0);
    }

    private static void handleEightIsReadAlone() {
        CHECKS.sentence("Terms", "handle 8 stands for it where a handle is read.");
        MemberInspection x = full();
        CHECKS.due("put(8, 4, 1)", x.put(RESULT, INT, 1), REFUSED);
        CHECKS.due("hold(8, 0)", x.hold(RESULT, AN_ITEM), REFUSED);
        CHECKS.due("hold(8, -1)", x.hold(RESULT, -1), REFUSED);
        CHECKS.due("the state", factsOf(x), factsOf(full()));
    }

    private static void handleEightIsReadByEachCall() {
        CHECKS.sentence("Terms", "handle 8 stands for it where a handle is read.");
        MemberInspection x = full();
        dueIn("RESULT", x, RESULT, INT + 1, 77);
        CHECKS.due("hold(7, 8)", x.hold(A_BYTE, RESULT), DONE);
        dueIn("hold(7, 8)", x, A_BYTE, INT + 1, 77);
        CHECKS.due("set(0, 0, 8)", x.set(AN_ITEM, WHOLE, RESULT), DONE);
        CHECKS.due("invoke(0, 0, 2, 80)", x.invoke(AN_ITEM, SUM, 2, 7 * 9 + RESULT), DONE);
        dueIn("sum of 77, 77 and whole 77", x, RESULT, LONG + 1, 231);
        CHECKS.due("cast(8, 1)", x.cast(RESULT, NUMBER_CLASS), DONE);
        CHECKS.due("cast(8, 2)", x.cast(RESULT, INTEGER_CLASS), CAST);
        CHECKS.due("cast(0, 5)", x.cast(AN_ITEM, ITEM_CLASS), DONE);
        CHECKS.due("look(8, true)", x.look(RESULT, true), AN_ITEM);
        CHECKS.due("getAs(8, 0, 4)", x.getAs(RESULT, WHOLE, INT), DONE);
        CHECKS.due("last()", x.last(), 77);
        x.put(A_BYTE, INT, 5);
        CHECKS.due("set(8, 0, 7)", x.set(RESULT, WHOLE, A_BYTE), DONE);
        CHECKS.due("set(8, 5, 8)", x.set(RESULT, NEXT, RESULT), DONE);
        CHECKS.due("invoke(8, 4, 1, 72)", x.invoke(RESULT, PICK, 1, RESULT * 9), DONE);
        dueIn("the whole less itself", x, RESULT, INT + 1, 0);
        dueField("whole set by RESULT", x, AN_ITEM, WHOLE, INT + 1, 5);
        x.get(AN_ITEM, NEXT);
        CHECKS.due("next set to RESULT", x.look(RESULT, true), AN_ITEM);
        CHECKS.due("get(8, 6)", x.get(RESULT, FIXED), DONE);
    }

    private static void lastAtFirst() {
        CHECKS.sentence("Terms", "LAST is a long, 0 at first.");
        CHECKS.due("last() at first", new MemberInspection().last(), 0);
        MemberInspection x = full();
        for (long v : new long[] {Long.MAX_VALUE, Long.MIN_VALUE}) {
            setTo(x, NOTHING, SHARED, LONG, v);
            x.getAs(NOTHING, SHARED, LONG);
            CHECKS.due("last()", x.last(), v);
        }
    }

    private static void dueRefused(String call, ToLongFunction<MemberInspection> action) {
        MemberInspection x = full();
        CHECKS.due(call, action.applyAsLong(x), REFUSED);
        CHECKS.due(call, factsOf(x), factsOf(full()));
    }

    private static void putAndHoldTestNumbersFirst() {
        CHECKS.sentence("Terms", NUMBERS_FIRST);
        for (int bad : outside(0, 7)) {
            dueRefused("put(" + bad + ", 4, 1)", x -> x.put(bad, INT, 1));
            dueRefused("put(" + bad + ", 8, 1)", x -> x.put(bad, SORT_TEXT, 1));
            dueRefused("hold(" + bad + ", 0)", x -> x.hold(bad, AN_ITEM));
            dueRefused("hold(" + bad + ", -1)", x -> x.hold(bad, -1));
        }
        for (int bad : outside(0, 8)) {
            dueRefused("put(0, " + bad + ", 1)", x -> x.put(AN_ITEM, bad, 1));
        }
        for (int bad : outside(-1, 8)) {
            dueRefused("hold(0, " + bad + ")", x -> x.hold(AN_ITEM, bad));
        }
    }

    private static void makeAndCastTestNumbersFirst() {
        CHECKS.sentence("Terms", NUMBERS_FIRST);
        for (int bad : outside(0, 7)) {
            dueRefused("make(" + bad + ", true, 1)", x -> x.make(bad, true, 1));
            dueRefused("make(" + bad + ", false, 1)", x -> x.make(bad, false, 1));
            dueRefused("cast(0, " + bad + ")", x -> x.cast(AN_ITEM, bad));
            dueRefused("cast(4, " + bad + ") of null", x -> x.cast(NOTHING, bad));
        }
        for (int bad : outside(0, 8)) {
            dueRefused("cast(" + bad + ", 0)", x -> x.cast(bad, ROOT_CLASS));
            dueRefused("cast(" + bad + ", 7)", x -> x.cast(bad, ROUGH_CLASS));
        }
    }

    private static void getAndGetAsTestNumbersFirst() {
        CHECKS.sentence("Terms", NUMBERS_FIRST);
        for (int bad : outside(0, 8)) {
            dueRefused("get(" + bad + ", 0)", x -> x.get(bad, WHOLE));
            dueRefused("get(" + bad + ", 7)", x -> x.get(bad, SHARED));
            dueRefused("get(0, " + bad + ")", x -> x.get(AN_ITEM, bad));
            dueRefused("get(4, " + bad + ") of null", x -> x.get(NOTHING, bad));
            dueRefused("get(2, " + bad + ") of a TEXT", x -> x.get(A_TEXT, bad));
            dueRefused("getAs(" + bad + ", 7, 5)", x -> x.getAs(bad, SHARED, LONG));
            dueRefused("getAs(4, " + bad + ", 5) of null", x -> x.getAs(NOTHING, bad, LONG));
        }
        for (int bad : outside(0, 7)) {
            dueRefused("getAs(0, 0, " + bad + ")", x -> x.getAs(AN_ITEM, WHOLE, bad));
            dueRefused("getAs(4, 0, " + bad + ") of null", x -> x.getAs(NOTHING, WHOLE, bad));
            dueRefused("getAs(0, 3, " + bad + ") of an object", x -> x.getAs(AN_ITEM, TEXT, bad));
        }
    }

    private static void setTestsNumbersFirst() {
        CHECKS.sentence("Terms", NUMBERS_FIRST);
        for (int bad : outside(0, 8)) {
            dueRefused("set(" + bad + ", 0, 7)", x -> x.set(bad, WHOLE, A_BYTE));
            dueRefused("set(" + bad + ", 7, 7)", x -> x.set(bad, SHARED, A_BYTE));
            dueRefused("set(0, " + bad + ", 7)", x -> x.set(AN_ITEM, bad, A_BYTE));
            dueRefused("set(4, " + bad + ", 7) of null", x -> x.set(NOTHING, bad, A_BYTE));
            dueRefused("set(0, 4, " + bad + ")", x -> x.set(AN_ITEM, ANY, bad));
            dueRefused("set(0, 6, " + bad + ") of fixed", x -> x.set(AN_ITEM, FIXED, bad));
            dueRefused("set(4, 0, " + bad + ") of null", x -> x.set(NOTHING, WHOLE, bad));
            dueRefused("set(2, 0, " + bad + ") of a TEXT", x -> x.set(A_TEXT, WHOLE, bad));
        }
    }

    private static void invokeTestsNumbersFirst() {
        CHECKS.sentence("Terms", NUMBERS_FIRST);
        for (int bad : outside(0, 8)) {
            dueRefused("invoke(" + bad + ", 5, 1, 63)", x -> x.invoke(bad, SELF, 1, A_BYTE * 9));
            dueRefused("invoke(" + bad + ", 2, 1, 63)", x -> x.invoke(bad, TWICE, 1, A_BYTE * 9));
        }
        for (int bad : outside(0, 5)) {
            dueRefused("invoke(0, " + bad + ", 1, 63)", x -> x.invoke(AN_ITEM, bad, 1, A_BYTE * 9));
            dueRefused("invoke(4, " + bad + ", 1, 63) of null", x -> x.invoke(NOTHING, bad, 1, A_BYTE * 9));
        }
        for (int bad : outside(0, 2)) {
            dueRefused("invoke(0, 5, " + bad + ", 63)", x -> x.invoke(AN_ITEM, SELF, bad, A_BYTE * 9));
            dueRefused("invoke(4, 5, " + bad + ", 63) of null", x -> x.invoke(NOTHING, SELF, bad, A_BYTE * 9));
        }
        for (int bad : outside(0, 80)) {
            dueRefused("invoke(0, 1, 2, " + bad + ")", x -> x.invoke(AN_ITEM, TAG, 2, bad));
            dueRefused("invoke(0, 5, 1, " + bad + ")", x -> x.invoke(AN_ITEM, SELF, 1, bad));
            dueRefused("invoke(0, 5, 0, " + bad + ") of no argument", x -> x.invoke(AN_ITEM, SELF, 0, bad));
            dueRefused("invoke(4, 4, 1, " + bad + ") of null", x -> x.invoke(NOTHING, PICK, 1, bad));
        }
    }

    private static void looksTestNumbersFirst() {
        CHECKS.sentence("Terms", NUMBERS_FIRST);
        for (int bad : outside(0, 8)) {
            dueRefused("look(" + bad + ", false)", x -> x.look(bad, false));
            dueRefused("look(" + bad + ", true)", x -> x.look(bad, true));
            dueRefused("value(" + bad + ")", x -> x.value(bad));
        }
        for (int bad : outside(0, 12)) {
            dueRefused("typed(" + bad + ", 0, 0)", x -> x.typed(bad, ROOT_CLASS, 0));
            dueRefused("typed(0, " + bad + ", 0)", x -> x.typed(ROOT_CLASS, bad, 0));
            dueRefused("typed(" + bad + ", 0, 1)", x -> x.typed(bad, ROOT_CLASS, 1));
        }
        for (int bad : outside(0, 3)) {
            dueRefused("typed(0, 0, " + bad + ")", x -> x.typed(ROOT_CLASS, ROOT_CLASS, bad));
        }
    }

    private static void dueLastZero(String call, int outcome, ToIntFunction<MemberInspection> action) {
        MemberInspection x = full();
        CHECKS.due("last() before " + call, x.last(), 11);
        CHECKS.due(call, action.applyAsInt(x), outcome);
        CHECKS.due("last() after " + call, x.last(), 0);
    }

    private static void requestsSetLastToZero() {
        CHECKS.sentence("Terms", LAST_IS_ZERO);
        dueLastZero("put(0, 4, 1)", DONE, x -> x.put(AN_ITEM, INT, 1));
        dueLastZero("put(0, 8, 1)", DONE, x -> x.put(AN_ITEM, SORT_TEXT, 1));
        dueLastZero("hold(0, 8)", DONE, x -> x.hold(AN_ITEM, RESULT));
        dueLastZero("hold(0, -1)", DONE, x -> x.hold(AN_ITEM, -1));
        dueLastZero("make(5, true, 1)", DONE, x -> x.make(ITEM_CLASS, true, 1));
        dueLastZero("get(0, 0)", DONE, x -> x.get(AN_ITEM, WHOLE));
        dueLastZero("get(4, 7)", DONE, x -> x.get(NOTHING, SHARED));
        dueLastZero("set(0, 0, 7)", DONE, x -> x.set(AN_ITEM, WHOLE, A_BYTE));
        dueLastZero("set(4, 7, 7)", DONE, x -> x.set(NOTHING, SHARED, A_BYTE));
        dueLastZero("invoke(0, 0, 2, 70)", DONE, x -> x.invoke(AN_ITEM, SUM, 2, A_BYTE * 9 + A_BYTE));
        dueLastZero("invoke(0, 5, 1, 63)", DONE, x -> x.invoke(AN_ITEM, SELF, 1, A_BYTE * 9));
        dueLastZero("cast(0, 0)", DONE, x -> x.cast(AN_ITEM, ROOT_CLASS));
    }

    private static void otherCallsKeepLast() {
        CHECKS.sentence("Terms", LAST_IS_ZERO);
        MemberInspection x = full();
        x.last();
        for (int handle = -1; handle <= 9; handle++) {
            x.look(handle, false);
            x.look(handle, true);
            x.value(handle);
        }
        for (int what = -1; what <= 4; what++) {
            x.typed(ITEM_CLASS, SPECIAL_CLASS, what);
            x.typed(13, 13, what);
        }
        CHECKS.due("the state after last, look, value and typed", factsOf(x), factsOf(full()));
    }

    /** A refusal that the document names: RESULT stays, and so does all else but LAST. */
    private static void dueStays(String call, int outcome, long last, ToIntFunction<MemberInspection> action) {
        MemberInspection x = full();
        CHECKS.due(call, action.applyAsInt(x), outcome);
        CHECKS.due(call, factsOf(x), fullFactsWithLast(last));
    }

    private static void resultStaysAfterNull() {
        CHECKS.sentence("Terms", RESULT_STAYS);
        for (int field : new int[] {WHOLE, TEXT, NEXT, FIXED, EXTRA}) {
            dueStays("get(4, " + field + ")", NULL, 0, x -> x.get(NOTHING, field));
            dueStays("getAs(4, " + field + ", 5)", NULL, 0, x -> x.getAs(NOTHING, field, LONG));
            dueStays("set(4, " + field + ", 7)", NULL, 0, x -> x.set(NOTHING, field, A_BYTE));
        }
        dueStays("invoke(4, 5, 1, 63)", NULL, 0, x -> x.invoke(NOTHING, SELF, 1, A_BYTE * 9));
    }

    private static void resultStaysAfterArgument() {
        CHECKS.sentence("Terms", RESULT_STAYS);
        dueStays("get(2, 0)", ARGUMENT, 0, x -> x.get(A_TEXT, WHOLE));
        dueStays("get(0, 8)", ARGUMENT, 0, x -> x.get(AN_ITEM, EXTRA));
        dueStays("getAs(2, 0, 4)", ARGUMENT, 0, x -> x.getAs(A_TEXT, WHOLE, INT));
        dueStays("getAs(0, 0, 3)", ARGUMENT, 0, x -> x.getAs(AN_ITEM, WHOLE, SHORT));
        dueStays("getAs(0, 3, 4)", ARGUMENT, 0, x -> x.getAs(AN_ITEM, TEXT, INT));
        dueStays("set(2, 0, 7)", ARGUMENT, 0, x -> x.set(A_TEXT, WHOLE, A_BYTE));
        dueStays("set(0, 1, 8)", ARGUMENT, 0, x -> x.set(AN_ITEM, SMALL, RESULT));
        dueStays("set(4, 7, 4)", ARGUMENT, 0, x -> x.set(NOTHING, SHARED, NOTHING));
        dueStays("invoke(2, 5, 1, 63)", ARGUMENT, 0, x -> x.invoke(A_TEXT, SELF, 1, A_BYTE * 9));
        dueStays("invoke(0, 5, 2, 63)", ARGUMENT, 0, x -> x.invoke(AN_ITEM, SELF, 2, A_BYTE * 9));
        dueStays("invoke(0, 5, 1, 72)", ARGUMENT, 0, x -> x.invoke(AN_ITEM, SELF, 1, RESULT * 9));
    }

    private static void resultStaysAfterFinalMissingAbstractAndCast() {
        CHECKS.sentence("Terms", RESULT_STAYS);
        dueStays("set(0, 6, 8)", FINAL, 0, x -> x.set(AN_ITEM, FIXED, RESULT));
        dueStays("make(4, false, 1)", MISSING, 0, x -> x.make(THING, false, 1));
        dueStays("make(0, true, 1)", MISSING, 0, x -> x.make(ROOT_CLASS, true, 1));
        dueStays("make(1, false, 1)", ABSTRACT, 0, x -> x.make(NUMBER_CLASS, false, 1));
        dueStays("make(7, true, 1)", ABSTRACT, 0, x -> x.make(ROUGH_CLASS, true, 1));
        dueStays("cast(0, 6)", CAST, 0, x -> x.cast(AN_ITEM, SPECIAL_CLASS));
        dueStays("cast(2, 7)", CAST, 0, x -> x.cast(A_TEXT, ROUGH_CLASS));
    }

    private static void resultStaysAfterTarget() {
        CHECKS.sentence("Terms", RESULT_STAYS);
        dueStays("invoke(0, 3, 2, 68)", TARGET, 1, x -> x.invoke(AN_ITEM, DIV, 2, A_BYTE * 9 + A_ZERO));
        dueStays("invoke(0, 1, 2, 43)", TARGET, 2, x -> x.invoke(AN_ITEM, TAG, 2, NOTHING * 9 + A_BYTE));
        dueStays("invoke(0, 4, 1, 36)", TARGET, 2, x -> x.invoke(AN_ITEM, PICK, 1, NOTHING * 9));
        dueStays("invoke(1, 4, 1, 36)", TARGET, 2, x -> x.invoke(A_SPECIAL, PICK, 1, NOTHING * 9));
    }
}
