/** The sentences on types: the Terms, and promises 4 make, 9 cast and 13 typed. */
public final class TypeSentencesTest extends Sentences {

    public static void main(String[] args) {
        makeTakesItsTypes();
        missingConstructors();
        constructorsWithout();
        constructorsWith();
        missingComesBeforeAbstract();
        abstractClasses();
        madeObjects();
        madeItemsHaveTheirWhole();
        madeSpecialsWrap();
        madeObjectsAreNew();
        castTakesItsNumbers();
        castOfInt();
        castOfNumbers();
        castOfBooleanAndChar();
        castOfPlain();
        castOfObjectsThatAreNotTaken();
        castToTheResult();
        castOfNull();
        typesAreNumbered();
        abstractClassesAndTheInterface();
        typesDirectlyBelow();
        specialAndRoughAreThings();
        typesTakeThemselves();
        rootTakesAllButInt();
        typesBelow();
        thingTakesSpecialAndRough();
        rootArrayTakesArraysOfObjects();
        itemArrayTakesSpecialArray();
        typedTakesItsTypes();
        typedIgnoresTheSecond();
        typedAbove();
        typedAboveOfArrays();
        typedElements();
        typedAbstract();
        typedOfAnotherWhat();
        CHECKS.end();
    }

    private static void makeTakesItsTypes() {
        CHECKS.sentence("Promise 4", "Makes an object by a constructor of type 0 .. 7 with no argument, or (with) with one INT, the argument.");
        CHECKS.due("make(0, false, 1)", full().make(ROOT_CLASS, false, 1), DONE);
        CHECKS.due("make(7, false, 1)", full().make(ROUGH_CLASS, false, 1), ABSTRACT);
        CHECKS.due("make(7, true, 1)", full().make(ROUGH_CLASS, true, 1), ABSTRACT);
        for (int bad : new int[] {-1, INT_TYPE, INT_ARRAY, SPECIAL_ARRAY, 13, Integer.MIN_VALUE, Integer.MAX_VALUE}) {
            CHECKS.due("make(" + bad + ", false, 1)", full().make(bad, false, 1), REFUSED);
            CHECKS.due("make(" + bad + ", true, 1)", full().make(bad, true, 1), REFUSED);
        }
    }

    private static void missingConstructors() {
        CHECKS.sentence("Promise 4", "THING, or a class without such a constructor: MISSING.");
        for (int type : new int[] {THING, INTEGER_CLASS, SPECIAL_CLASS}) {
            CHECKS.due("make(" + type + ", false, 1)", full().make(type, false, 1), MISSING);
        }
        for (int type : new int[] {THING, ROOT_CLASS, NUMBER_CLASS, TEXT_CLASS}) {
            CHECKS.due("make(" + type + ", true, 1)", full().make(type, true, 1), MISSING);
        }
    }

    private static void constructorsWithout() {
        CHECKS.sentence("Promise 4", "Without: root class, NUMBER, TEXT, ITEM, ROUGH have one;");
        int[] due = {DONE, ABSTRACT, MISSING, DONE, MISSING, DONE, MISSING, ABSTRACT};
        for (int type = ROOT_CLASS; type <= ROUGH_CLASS; type++) {
            CHECKS.due("make(" + type + ", false, 9)", full().make(type, false, 9), due[type]);
        }
    }

    private static void constructorsWith() {
        CHECKS.sentence("Promise 4", "with: INTEGER, ITEM, SPECIAL, ROUGH.");
        int[] due = {MISSING, MISSING, DONE, MISSING, MISSING, DONE, DONE, ABSTRACT};
        for (int type = ROOT_CLASS; type <= ROUGH_CLASS; type++) {
            CHECKS.due("make(" + type + ", true, 9)", full().make(type, true, 9), due[type]);
        }
    }

    private static void missingComesBeforeAbstract() {
        CHECKS.sentence("Promise 4", "NUMBER or ROUGH: ABSTRACT.");
        CHECKS.due("make(1, true, 1)", full().make(NUMBER_CLASS, true, 1), MISSING);
        CHECKS.due("make(4, true, 1)", full().make(THING, true, 1), MISSING);
        CHECKS.due("make(4, false, 1)", full().make(THING, false, 1), MISSING);
    }

    private static void abstractClasses() {
        CHECKS.sentence("Promise 4", "NUMBER or ROUGH: ABSTRACT.");
        CHECKS.due("make(1, false, 1)", full().make(NUMBER_CLASS, false, 1), ABSTRACT);
        CHECKS.due("make(7, false, 1)", full().make(ROUGH_CLASS, false, 1), ABSTRACT);
        CHECKS.due("make(7, true, 1)", full().make(ROUGH_CLASS, true, 1), ABSTRACT);
    }

    private static MemberInspection made(int type, boolean with, int argument) {
        MemberInspection x = full();
        CHECKS.due("make(" + type + ", " + with + ", " + argument + ")", x.make(type, with, argument), DONE);
        return x;
    }

    private static void madeObjects() {
        CHECKS.sentence("Promise 4", "Else RESULT is the new object: a PLAIN one; a TEXT with number 0; an INTEGER box of the argument;");
        dueIn("make(0, false, 9)", made(ROOT_CLASS, false, 9), RESULT, 12, 0);
        dueIn("make(3, false, 9)", made(TEXT_CLASS, false, 9), RESULT, 9, 0);
        for (int argument : new int[] {0, -1, Integer.MAX_VALUE, Integer.MIN_VALUE}) {
            MemberInspection x = made(INTEGER_CLASS, true, argument);
            dueIn("make(2, true, " + argument + ")", x, RESULT, INT + 1, argument);
            CHECKS.due("look(8, true)", x.look(RESULT, true), -2);
        }
    }

    private static void madeItemsHaveTheirWhole() {
        CHECKS.sentence("Promise 4", "an ITEM with whole 0 or the argument;");
        for (int argument : new int[] {0, -1, Integer.MAX_VALUE, Integer.MIN_VALUE}) {
            dueField("make(5, false, " + argument + ")", made(ITEM_CLASS, false, argument), RESULT, WHOLE, INT + 1, 0);
            dueField("make(5, true, " + argument + ")", made(ITEM_CLASS, true, argument), RESULT, WHOLE, INT + 1, argument);
            dueIn("make(5, true, " + argument + ")", made(ITEM_CLASS, true, argument), RESULT, 10, 0);
        }
    }

    private static void madeSpecialsWrap() {
        CHECKS.sentence("Promise 4", "a SPECIAL with whole the argument plus 1 (wraps) and extra 5. DONE.");
        int[] pairs = {0, 1, -1, 0, 2147483646, 2147483647, Integer.MAX_VALUE, Integer.MIN_VALUE,
            Integer.MIN_VALUE, -2147483647};
        for (int i = 0; i < pairs.length; i += 2) {
            String call = "make(6, true, " + pairs[i] + ")";
            dueField(call, made(SPECIAL_CLASS, true, pairs[i]), RESULT, WHOLE, INT + 1, pairs[i + 1]);
            dueField(call, made(SPECIAL_CLASS, true, pairs[i]), RESULT, EXTRA, SHORT + 1, 5);
            dueIn(call, made(SPECIAL_CLASS, true, pairs[i]), RESULT, 11, 0);
        }
    }

    private static void madeObjectsAreNew() {
        CHECKS.sentence("Promise 4", "Else RESULT is the new object:");
        for (int type : new int[] {ROOT_CLASS, ITEM_CLASS, SPECIAL_CLASS}) {
            MemberInspection x = new MemberInspection();
            for (int handle = 0; handle <= 7; handle++) {
                x.make(type, type != ROOT_CLASS, 1);
                CHECKS.due("look(8, true) of new object " + handle, x.look(RESULT, true), -2);
                x.hold(handle, RESULT);
            }
            for (int handle = 0; handle <= 7; handle++) {
                CHECKS.due("look(" + handle + ", true) of type " + type, x.look(handle, true), handle);
            }
        }
        dueOwnFields(ITEM_CLASS, 1);
        dueOwnFields(SPECIAL_CLASS, 2);
    }

    /** Two objects made alike: what is set in one stays as it was in the other. */
    private static void dueOwnFields(int type, int whole) {
        MemberInspection x = new MemberInspection();
        for (int handle = 0; handle <= 1; handle++) {
            x.make(type, true, 1);
            x.hold(handle, RESULT);
        }
        x.put(7, BYTE, 99);
        x.put(6, SORT_TEXT, 4);
        int[] froms = {7, 7, 7, 6, 6, 0};
        int[] sorts = {INT + 1, BYTE + 1, DOUBLE + 1, 0, 0, 0};
        for (int field = WHOLE; field <= NEXT; field++) {
            CHECKS.due("set(0, " + field + ")", x.set(0, field, froms[field]), DONE);
            dueField("the other of type " + type, x, 1, field, sorts[field], field == WHOLE ? whole : 0);
        }
        if (type == SPECIAL_CLASS) {
            CHECKS.due("set(0, 8)", x.set(0, EXTRA, 7), DONE);
            dueField("the other SPECIAL", x, 1, EXTRA, SHORT + 1, 5);
        }
    }

    private static void castTakesItsNumbers() {
        CHECKS.sentence("Promise 9", "What the handle 0 .. 8 holds is cast to type 0 .. 7.");
        for (int handle = -1; handle <= 9; handle++) {
            boolean isGood = handle >= 0 && handle <= 8;
            CHECKS.due("cast(" + handle + ", 0)", full().cast(handle, ROOT_CLASS), isGood ? DONE : REFUSED);
        }
        CHECKS.due("cast(4, 7)", full().cast(NOTHING, ROUGH_CLASS), DONE);
        for (int bad : new int[] {-1, INT_TYPE, INT_ARRAY, SPECIAL_ARRAY, 13, Integer.MIN_VALUE, Integer.MAX_VALUE}) {
            CHECKS.due("cast(4, " + bad + ")", full().cast(NOTHING, bad), REFUSED);
            CHECKS.due("cast(0, " + bad + ")", full().cast(AN_ITEM, bad), REFUSED);
        }
    }

    /** A digit for each type 0 .. 7, 1 where the cast of the handle's object is DONE. */
    private static void dueCasts(String what, int kind, String taken) {
        for (int type = ROOT_CLASS; type <= ROUGH_CLASS; type++) {
            MemberInspection x = full();
            x.put(A_ZERO, kind, 1);
            boolean isTaken = taken.charAt(type) == '1';
            String call = "cast of " + what + " to " + type;
            CHECKS.due(call, x.cast(A_ZERO, type), isTaken ? DONE : CAST);
            dueIn(call, x, RESULT, isTaken ? kind + 1 : INT + 1, isTaken ? 1 : 77);
        }
    }

    private static void castOfInt() {
        CHECKS.sentence("Promise 9", "A box of INT is an INTEGER;");
        dueCasts("INT", INT, "11100000");
    }

    private static void castOfNumbers() {
        CHECKS.sentence("Promise 9", "boxes of BYTE, SHORT, LONG, FLOAT and DOUBLE are taken by NUMBER and the root class,");
        for (int kind : new int[] {BYTE, SHORT, LONG, FLOAT, DOUBLE}) {
            dueCasts("kind " + kind, kind, "11000000");
        }
    }

    private static void castOfBooleanAndChar() {
        CHECKS.sentence("Promise 9", "those of BOOLEAN and CHAR by the root class alone;");
        dueCasts("BOOLEAN", BOOLEAN, "10000000");
        dueCasts("CHAR", CHAR, "10000000");
    }

    private static void castOfPlain() {
        CHECKS.sentence("Promise 9", "a PLAIN object is of the root class.");
        dueCastsOf(A_PLAIN, "10000000");
    }

    private static void dueCastsOf(int handle, String taken) {
        for (int type = ROOT_CLASS; type <= ROUGH_CLASS; type++) {
            MemberInspection x = full();
            boolean isTaken = taken.charAt(type) == '1';
            String call = "cast(" + handle + ", " + type + ")";
            CHECKS.due(call, x.cast(handle, type), isTaken ? DONE : CAST);
            CHECKS.due(call + ": RESULT", x.look(RESULT, false), isTaken ? x.look(handle, false) : INT + 1);
            CHECKS.due(call + ": same", x.look(RESULT, true), isTaken ? x.look(handle, true) : -2);
        }
    }

    private static void castOfObjectsThatAreNotTaken() {
        CHECKS.sentence("Promise 9", "It is an object that the type does not TAKE: CAST.");
        dueCastsOf(AN_ITEM, "10000100");
        dueCastsOf(A_SPECIAL, "10001110");
        dueCastsOf(A_TEXT, "10010000");
    }

    private static void castToTheResult() {
        CHECKS.sentence("Promise 9", "Else RESULT is it (null too). DONE.");
        MemberInspection x = full();
        x.cast(ITEM_AGAIN, ITEM_CLASS);
        CHECKS.due("the same ITEM", x.look(RESULT, true), AN_ITEM);
        setTo(x, RESULT, WHOLE, INT, 5);
        dueField("whole by RESULT", x, AN_ITEM, WHOLE, INT + 1, 5);
        x.cast(A_TEXT, TEXT_CLASS);
        dueIn("cast of a TEXT", x, RESULT, 9, 6);
        CHECKS.due("last()", x.last(), 0);
    }

    private static void castOfNull() {
        CHECKS.sentence("Promise 9", "Else RESULT is it (null too). DONE.");
        for (int type = ROOT_CLASS; type <= ROUGH_CLASS; type++) {
            MemberInspection x = full();
            CHECKS.due("cast(4, " + type + ")", x.cast(NOTHING, type), DONE);
            dueIn("cast of null to " + type, x, RESULT, 0, 0);
        }
    }

    /** A digit for each type 0 .. 12, 1 where x takes it. */
    private static void dueTakes(int x, String taken) {
        for (int y = ROOT_CLASS; y <= SPECIAL_ARRAY; y++) {
            CHECKS.due("typed(" + x + ", " + y + ", 0)", full().typed(x, y, 0), taken.charAt(y) - '0');
        }
    }

    private static void typesAreNumbered() {
        CHECKS.sentence("Terms", "TYPES: 0 the root class, 1 NUMBER, 2 INTEGER, 3 TEXT, 4 THING, 5 ITEM, 6 SPECIAL, 7 ROUGH, 8 int, "
            + "9 int array, 10 root array, 11 ITEM array, 12 SPECIAL array.");
        for (int type = -3; type <= 16; type++) {
            int due = type >= 0 && type <= 12 ? 1 : REFUSED;
            CHECKS.due("typed(" + type + ", " + type + ", 0)", full().typed(type, type, 0), due);
        }
    }

    private static void abstractClassesAndTheInterface() {
        CHECKS.sentence("Terms", "NUMBER and ROUGH are abstract classes, THING an interface.");
        CHECKS.due("typed(1, 0, 3)", full().typed(NUMBER_CLASS, 0, 3), 1);
        CHECKS.due("typed(7, 0, 3)", full().typed(ROUGH_CLASS, 0, 3), 1);
        CHECKS.due("make(1, false, 0)", full().make(NUMBER_CLASS, false, 0), ABSTRACT);
        CHECKS.due("make(7, false, 0)", full().make(ROUGH_CLASS, false, 0), ABSTRACT);
        CHECKS.due("make(4, false, 0)", full().make(THING, false, 0), MISSING);
    }

    private static void typesDirectlyBelow() {
        CHECKS.sentence("Terms", "Directly below: NUMBER, TEXT, ITEM, ROUGH below the root class; INTEGER (of boxes of INT) below NUMBER; "
            + "SPECIAL below ITEM;");
        int[] below = {NUMBER_CLASS, TEXT_CLASS, ITEM_CLASS, ROUGH_CLASS, INTEGER_CLASS, SPECIAL_CLASS};
        int[] above = {ROOT_CLASS, ROOT_CLASS, ROOT_CLASS, ROOT_CLASS, NUMBER_CLASS, ITEM_CLASS};
        for (int i = 0; i < below.length; i++) {
            CHECKS.due("typed(" + below[i] + ", 0, 1)", full().typed(below[i], 0, 1), above[i]);
            CHECKS.due("typed(" + above[i] + ", " + below[i] + ", 0)", full().typed(above[i], below[i], 0), 1);
            CHECKS.due("typed(" + below[i] + ", " + above[i] + ", 0)", full().typed(below[i], above[i], 0), 0);
            CHECKS.due("typed(0, " + below[i] + ", 0)", full().typed(ROOT_CLASS, below[i], 0), 1);
        }
    }

    private static void specialAndRoughAreThings() {
        CHECKS.sentence("Terms", "SPECIAL and ROUGH are THINGS.");
        CHECKS.due("cast(1, 4)", full().cast(A_SPECIAL, THING), DONE);
        CHECKS.due("cast(0, 4)", full().cast(AN_ITEM, THING), CAST);
        CHECKS.due("typed(4, 6, 0)", full().typed(THING, SPECIAL_CLASS, 0), 1);
        CHECKS.due("typed(4, 7, 0)", full().typed(THING, ROUGH_CLASS, 0), 1);
        CHECKS.due("typed(4, 5, 0)", full().typed(THING, ITEM_CLASS, 0), 0);
        CHECKS.due("typed(6, 4, 0)", full().typed(SPECIAL_CLASS, THING, 0), 0);
    }

    private static void typesTakeThemselves() {
        CHECKS.sentence("Terms", "Type x TAKES type y: they are the same;");
        for (int type = ROOT_CLASS; type <= SPECIAL_ARRAY; type++) {
            CHECKS.due("typed(" + type + ", " + type + ", 0)", full().typed(type, type, 0), 1);
        }
        dueTakes(INTEGER_CLASS, "0010000000000");
        dueTakes(TEXT_CLASS, "0001000000000");
        dueTakes(SPECIAL_CLASS, "0000001000000");
        dueTakes(ROUGH_CLASS, "0000000100000");
        dueTakes(INT_TYPE, "0000000010000");
        dueTakes(INT_ARRAY, "0000000001000");
        dueTakes(SPECIAL_ARRAY, "0000000000001");
    }

    private static void rootTakesAllButInt() {
        CHECKS.sentence("Terms", "or x is the root class and y is not int;");
        dueTakes(ROOT_CLASS, "1111111101111");
    }

    private static void typesBelow() {
        CHECKS.sentence("Terms", "or y is below x, directly or through others,");
        dueTakes(NUMBER_CLASS, "0110000000000");
        dueTakes(ITEM_CLASS, "0000011000000");
    }

    private static void thingTakesSpecialAndRough() {
        CHECKS.sentence("Terms", "or x is THING and y is SPECIAL or ROUGH;");
        dueTakes(THING, "0000101100000");
    }

    private static void rootArrayTakesArraysOfObjects() {
        CHECKS.sentence("Terms", "or x is the root array and y is an ITEM or SPECIAL array;");
        dueTakes(ROOT_ARRAY, "0000000000111");
    }

    private static void itemArrayTakesSpecialArray() {
        CHECKS.sentence("Terms", "or x is the ITEM array and y the SPECIAL array.");
        dueTakes(ITEM_ARRAY, "0000000000011");
    }

    private static void typedTakesItsTypes() {
        CHECKS.sentence("Promise 13", "Of types 0 .. 12: 0: 1 if x TAKES y, else 0.");
        CHECKS.due("typed(0, 0, 0)", full().typed(0, 0, 0), 1);
        CHECKS.due("typed(12, 12, 0)", full().typed(12, 12, 0), 1);
        CHECKS.due("typed(0, 12, 0)", full().typed(0, 12, 0), 1);
        CHECKS.due("typed(12, 0, 0)", full().typed(12, 0, 0), 0);
        for (int bad : outside(0, 12)) {
            CHECKS.due("typed(" + bad + ", 0, 0)", full().typed(bad, 0, 0), REFUSED);
            CHECKS.due("typed(0, " + bad + ", 0)", full().typed(0, bad, 0), REFUSED);
            CHECKS.due("typed(" + bad + ", " + bad + ", 0)", full().typed(bad, bad, 0), REFUSED);
        }
    }

    private static void typedIgnoresTheSecond() {
        CHECKS.sentence("Promise 13", "Of x alone, y any:");
        for (int y : new int[] {-1, 0, 12, 13, Integer.MIN_VALUE, Integer.MAX_VALUE}) {
            CHECKS.due("typed(6, " + y + ", 1)", full().typed(SPECIAL_CLASS, y, 1), ITEM_CLASS);
            CHECKS.due("typed(12, " + y + ", 2)", full().typed(SPECIAL_ARRAY, y, 2), SPECIAL_CLASS);
            CHECKS.due("typed(12, " + y + ", 3)", full().typed(SPECIAL_ARRAY, y, 3), 1);
            for (int what = 1; what <= 3; what++) {
                CHECKS.due("typed(-1, " + y + ", " + what + ")", full().typed(-1, y, what), REFUSED);
                CHECKS.due("typed(13, " + y + ", " + what + ")", full().typed(13, y, what), REFUSED);
            }
        }
    }

    private static void dueTyped(int what, int... due) {
        for (int type = ROOT_CLASS; type <= SPECIAL_ARRAY; type++) {
            CHECKS.due("typed(" + type + ", 0, " + what + ")", full().typed(type, 0, what), due[type]);
        }
    }

    private static void typedAbove() {
        CHECKS.sentence("Promise 13", "1 the class directly above it as a type: for int, THING and the root class -2;");
        dueTyped(1, -2, ROOT_CLASS, NUMBER_CLASS, ROOT_CLASS, -2, ROOT_CLASS, ITEM_CLASS, ROOT_CLASS, -2, 0, 0, 0, 0);
    }

    private static void typedAboveOfArrays() {
        CHECKS.sentence("Promise 13", "for an array the root class, 0;");
        for (int array = INT_ARRAY; array <= SPECIAL_ARRAY; array++) {
            CHECKS.due("typed(" + array + ", 0, 1)", full().typed(array, 0, 1), 0);
        }
    }

    private static void typedElements() {
        CHECKS.sentence("Promise 13", "2 the type of its elements, -2 if it is no array;");
        dueTyped(2, -2, -2, -2, -2, -2, -2, -2, -2, -2, INT_TYPE, ROOT_CLASS, ITEM_CLASS, SPECIAL_CLASS);
    }

    private static void typedAbstract() {
        CHECKS.sentence("Promise 13", "3: 1 if it is abstract (an interface and int count so, and arrays), 0 else.");
        dueTyped(3, 0, 1, 0, 0, 1, 0, 0, 1, 1, 1, 1, 1, 1);
    }

    private static void typedOfAnotherWhat() {
        CHECKS.sentence("Promise 13", "Another what: REFUSED.");
        for (int what : outside(0, 3)) {
            for (int type = -1; type <= 13; type++) {
                CHECKS.due("typed(" + type + ", 0, " + what + ")", full().typed(type, 0, what), REFUSED);
            }
        }
    }
}
