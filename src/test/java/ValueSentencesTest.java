/** The sentences of the Terms on values: how they are MADE and TOLD, WIDEN and CONVERT. */
public final class ValueSentencesTest extends Sentences {

    // Stands for the told value where a box is not taken.
    private static final long NOT = Long.MIN_VALUE + 1;
    private static final int[] VALUE_FIELDS = {SMALL, EXTRA, WHOLE, SHARED, REAL};
    private static final int[] SORTS_IN_FIELDS = {BYTE + 1, SHORT + 1, INT + 1, LONG + 1, DOUBLE + 1};

    public static void main(String[] args) {
        kindsAreNumbered();
        booleanIsTheLowestBit();
        byteIsTheLowEightBits();
        charIsTheLowSixteenBits();
        charIsNotBelowZero();
        shortIsTheLowSixteenBits();
        intIsTheLowThirtyTwoBits();
        longIsItself();
        floatIsAnEighth();
        doubleIsAnEighth();
        wholeNumbersAreToldAsThemselves();
        realNumbersAreToldTimesEight();
        byteWidens();
        charAndShortWiden();
        intWidens();
        longWidens();
        floatWidens();
        booleanAndDoubleWidenToThemselves();
        wideningRoundsAsTheLanguageDoes();
        boxesConvertByTheirKind();
        nullIsNoValue();
        objectsConvertToTheirClasses();
        CHECKS.end();
    }

    /** Pairs: the long, and the value of the box that is made of it. */
    private static void dueMade(int kind, long... pairs) {
        for (int i = 0; i < pairs.length; i += 2) {
            MemberInspection x = new MemberInspection();
            String call = "put(0, " + kind + ", " + pairs[i] + ")";
            CHECKS.due(call, x.put(0, kind, pairs[i]), DONE);
            dueIn(call, x, 0, kind + 1, pairs[i + 1]);
        }
    }

    private static void kindsAreNumbered() {
        CHECKS.sentence("Terms", "KINDS of values: 0 BOOLEAN, 1 BYTE, 2 CHAR, 3 SHORT, 4 INT, 5 LONG, 6 FLOAT, 7 DOUBLE.");
        long[] due = {1, -127, 32897, -32639, -2147450751L, 6442483841L, 6442483712L, 6442483841L};
        for (int kind = BOOLEAN; kind <= DOUBLE; kind++) {
            dueMade(kind, 0x180008081L, due[kind]);
        }
        for (int bad : outside(BOOLEAN, DOUBLE)) {
            CHECKS.due("getAs(0, 0, " + bad + ")", full().getAs(AN_ITEM, WHOLE, bad), REFUSED);
        }
    }

    private static void booleanIsTheLowestBit() {
        CHECKS.sentence("Terms", "a long v is MADE: BOOLEAN its lowest bit;");
        dueMade(BOOLEAN, 0, 0, 1, 1, 2, 0, 3, 1, -1, 1, -2, 0, 256, 0, 257, 1, 1L << 32, 0,
            Long.MAX_VALUE, 1, Long.MIN_VALUE, 0);
    }

    private static void byteIsTheLowEightBits() {
        CHECKS.sentence("Terms", "BYTE, CHAR, SHORT, INT its low 8, 16, 16, 32 bits;");
        dueMade(BYTE, 0, 0, 127, 127, 128, -128, 255, -1, 256, 0, -1, -1, -128, -128, -129, 127, -256, 0,
            1L << 32, 0, Long.MAX_VALUE, -1, Long.MIN_VALUE, 0);
    }

    private static void charIsTheLowSixteenBits() {
        CHECKS.sentence("Terms", "BYTE, CHAR, SHORT, INT its low 8, 16, 16, 32 bits;");
        dueMade(CHAR, 0, 0, 65535, 65535, 65536, 0, 65537, 1, 1L << 32, 0,
            Long.MAX_VALUE, 65535, Long.MIN_VALUE, 0);
    }

    private static void charIsNotBelowZero() {
        CHECKS.sentence("Terms", "whole numbers of 8, 16 (CHAR: not below 0), 16, 32, 64 bits, IEEE numbers of 32 and 64 bits;");
        dueMade(CHAR, -1, 65535, 32767, 32767, 32768, 32768, -32768, 32768, -65535, 1, -65536, 0, -65537, 65535);
    }

    private static void shortIsTheLowSixteenBits() {
        CHECKS.sentence("Terms", "BYTE, CHAR, SHORT, INT its low 8, 16, 16, 32 bits;");
        dueMade(SHORT, 0, 0, 32767, 32767, 32768, -32768, 65535, -1, 65536, 0, -1, -1, -32768, -32768,
            -32769, 32767, Long.MAX_VALUE, -1, Long.MIN_VALUE, 0);
    }

    private static void intIsTheLowThirtyTwoBits() {
        CHECKS.sentence("Terms", "BYTE, CHAR, SHORT, INT its low 8, 16, 16, 32 bits;");
        dueMade(INT, 0, 0, 2147483647L, 2147483647L, 2147483648L, -2147483648L, 4294967295L, -1,
            4294967296L, 0, -1, -1, -2147483648L, -2147483648L, -2147483649L, 2147483647L,
            Long.MAX_VALUE, -1, Long.MIN_VALUE, 0);
    }

    private static void longIsItself() {
        CHECKS.sentence("Terms", "LONG itself;");
        for (long v : new long[] {0, -1, 2147483648L, 9007199254740993L, Long.MAX_VALUE, Long.MIN_VALUE}) {
            dueMade(LONG, v, v);
        }
    }

    private static void floatIsAnEighth() {
        CHECKS.sentence("Terms", "FLOAT (float) v * 0.125f;");
        dueMade(FLOAT, 0, 0, 1, 1, -1, -1, 16777216, 16777216, 16777217, 16777216, 16777218, 16777218,
            16777219, 16777220, -16777217, -16777216);
        // By way of a DOUBLE the first would be rounded twice; the second and third lie about a half.
        dueMade(FLOAT, (1L << 60) + (1L << 36) + 1, 1152921642045800448L,
            9223371761976868863L, 9223371487098961920L, 9223371761976868864L, Long.MAX_VALUE,
            Long.MAX_VALUE, Long.MAX_VALUE, Long.MIN_VALUE, Long.MIN_VALUE);
    }

    private static void doubleIsAnEighth() {
        CHECKS.sentence("Terms", "DOUBLE (double) v * 0.125.");
        dueMade(DOUBLE, 0, 0, 1, 1, -1, -1, 16777217, 16777217,
            9007199254740992L, 9007199254740992L, 9007199254740993L, 9007199254740992L,
            9007199254740994L, 9007199254740994L, 9007199254740995L, 9007199254740996L,
            -9007199254740993L, -9007199254740992L);
        dueMade(DOUBLE, 9223372036854775295L, 9223372036854774784L, 9223372036854775296L, Long.MAX_VALUE,
            Long.MAX_VALUE, Long.MAX_VALUE, Long.MIN_VALUE, Long.MIN_VALUE);
    }

    private static void wholeNumbersAreToldAsThemselves() {
        CHECKS.sentence("Terms", "TOLD: BOOLEAN 0 or 1; whole numbers themselves;");
        dueMade(BOOLEAN, 7, 1, 8, 0);
        MemberInspection x = full();
        for (long v : new long[] {Long.MAX_VALUE, Long.MIN_VALUE, 9007199254740993L, -1}) {
            setTo(x, NOTHING, SHARED, LONG, v);
            CHECKS.due("getAs(4, 7, 5) of " + v, x.getAs(NOTHING, SHARED, LONG), DONE);
            CHECKS.due("last() of " + v, x.last(), v);
        }
    }

    private static void realNumbersAreToldTimesEight() {
        CHECKS.sentence("Terms", "FLOAT and DOUBLE x: (long) ((double) x * 8.0).");
        // Beyond a long the told value stops at its ends.
        dueToldOfShared(DOUBLE, 1L << 60, Long.MAX_VALUE, (1L << 60) - 1, Long.MAX_VALUE,
            (1L << 60) - 128, 9223372036854774784L, -(1L << 60), Long.MIN_VALUE,
            -(1L << 60) - 512, Long.MIN_VALUE, -(1L << 60) + 128, -9223372036854774784L,
            Long.MAX_VALUE, Long.MAX_VALUE, Long.MIN_VALUE, Long.MIN_VALUE, 0, 0, -1, -8);
        dueToldOfShared(FLOAT, 1L << 60, Long.MAX_VALUE, (1L << 60) - (1L << 36), 9223371487098961920L,
            -(1L << 60), Long.MIN_VALUE, Long.MAX_VALUE, Long.MAX_VALUE, Long.MIN_VALUE, Long.MIN_VALUE,
            0, 0, -1, -8);
    }

    private static void dueToldOfShared(int kind, long... pairs) {
        for (int i = 0; i < pairs.length; i += 2) {
            MemberInspection x = full();
            setTo(x, NOTHING, SHARED, LONG, pairs[i]);
            String call = "getAs(4, 7, " + kind + ") of " + pairs[i];
            CHECKS.due(call, x.getAs(NOTHING, SHARED, kind), DONE);
            CHECKS.due(call + ": last()", x.last(), pairs[i + 1]);
        }
    }

    /** A digit for each kind, 1 where the field is read as it; told as a whole number, FLOAT, DOUBLE. */
    private static void dueRead(int field, int kind, long v, String widens, long whole, long asFloat, long asDouble) {
        for (int as = BOOLEAN; as <= DOUBLE; as++) {
            MemberInspection x = full();
            setTo(x, A_SPECIAL, field, kind, v);
            boolean isRead = widens.charAt(as) == '1';
            long told = as == FLOAT ? asFloat : as == DOUBLE ? asDouble : whole;
            String call = "getAs(1, " + field + ", " + as + ") of " + v;
            CHECKS.due(call, x.getAs(A_SPECIAL, field, as), isRead ? DONE : ARGUMENT);
            CHECKS.due(call + ": last()", x.last(), isRead ? told : 0);
        }
    }

    /** The told values, or NOT, of small, extra, whole, shared and real after a set to the box. */
    private static void dueStored(int kind, long v, long... due) {
        long[] before = {0, 9, 22, 55, 0};
        for (int i = 0; i < VALUE_FIELDS.length; i++) {
            MemberInspection x = full();
            x.put(A_ZERO, kind, v);
            boolean isTaken = due[i] != NOT;
            String call = "set(1, " + VALUE_FIELDS[i] + ", 5) to " + v + " of kind " + kind;
            CHECKS.due(call, x.set(A_SPECIAL, VALUE_FIELDS[i], A_ZERO), isTaken ? DONE : ARGUMENT);
            dueField(call, x, A_SPECIAL, VALUE_FIELDS[i], SORTS_IN_FIELDS[i], isTaken ? due[i] : before[i]);
        }
    }

    private static void byteWidens() {
        CHECKS.sentence("Terms", "BYTE to SHORT, INT, LONG, FLOAT, DOUBLE;");
        dueRead(SMALL, BYTE, -128, "01011111", -128, -1024, -1024);
        dueRead(SMALL, BYTE, 127, "01011111", 127, 1016, 1016);
        dueStored(BYTE, -128, -128, -128, -128, -128, -1024);
        dueStored(BYTE, 127, 127, 127, 127, 127, 1016);
    }

    private static void charAndShortWiden() {
        CHECKS.sentence("Terms", "CHAR and SHORT to INT, LONG, FLOAT, DOUBLE;");
        dueStored(CHAR, 65535, NOT, NOT, 65535, 65535, 524280);
        dueStored(CHAR, 0, NOT, NOT, 0, 0, 0);
        dueRead(EXTRA, SHORT, -32768, "00011111", -32768, -262144, -262144);
        dueRead(EXTRA, SHORT, 32767, "00011111", 32767, 262136, 262136);
        dueStored(SHORT, -32768, NOT, -32768, -32768, -32768, -262144);
        dueStored(SHORT, 1, NOT, 1, 1, 1, 8);
    }

    private static void intWidens() {
        CHECKS.sentence("Terms", "INT to LONG, FLOAT, DOUBLE;");
        dueRead(WHOLE, INT, 1, "00001111", 1, 8, 8);
        dueRead(WHOLE, INT, -2147483648L, "00001111", -2147483648L, -17179869184L, -17179869184L);
        dueStored(INT, 2147483647L, NOT, NOT, 2147483647L, 2147483647L, 17179869176L);
        dueStored(INT, -2147483648L, NOT, NOT, -2147483648L, -2147483648L, -17179869184L);
        dueStored(INT, 0, NOT, NOT, 0, 0, 0);
    }

    private static void longWidens() {
        CHECKS.sentence("Terms", "LONG to FLOAT, DOUBLE;");
        dueRead(SHARED, LONG, 1, "00000111", 1, 8, 8);
        dueRead(SHARED, LONG, Long.MIN_VALUE, "00000111", Long.MIN_VALUE, Long.MIN_VALUE, Long.MIN_VALUE);
        dueStored(LONG, 0, NOT, NOT, NOT, 0, 0);
        dueStored(LONG, Long.MAX_VALUE, NOT, NOT, NOT, Long.MAX_VALUE, Long.MAX_VALUE);
    }

    private static void floatWidens() {
        CHECKS.sentence("Terms", "FLOAT to DOUBLE;");
        dueStored(FLOAT, 8, NOT, NOT, NOT, NOT, 8);
        dueStored(FLOAT, 0, NOT, NOT, NOT, NOT, 0);
        dueStored(FLOAT, 16777219, NOT, NOT, NOT, NOT, 16777220);
    }

    private static void booleanAndDoubleWidenToThemselves() {
        CHECKS.sentence("Terms", "each to itself;");
        dueStored(BOOLEAN, 1, NOT, NOT, NOT, NOT, NOT);
        dueStored(BOOLEAN, 0, NOT, NOT, NOT, NOT, NOT);
        dueRead(REAL, DOUBLE, 8, "00000001", 0, 0, 8);
        dueStored(DOUBLE, 8, NOT, NOT, NOT, NOT, 8);
        dueStored(DOUBLE, 0, NOT, NOT, NOT, NOT, 0);
    }

    private static void wideningRoundsAsTheLanguageDoes() {
        CHECKS.sentence("Terms", "converted as the language does.");
        dueRead(WHOLE, INT, 16777217, "00001111", 16777217, 134217728, 134217736);
        dueRead(WHOLE, INT, 16777219, "00001111", 16777219, 134217760, 134217752);
        dueRead(WHOLE, INT, 2147483647L, "00001111", 2147483647L, 17179869184L, 17179869176L);
        dueRead(SHARED, LONG, 9007199254740993L, "00000111", 9007199254740993L, 72057594037927936L, 72057594037927936L);
        dueRead(SHARED, LONG, 9007199254740995L, "00000111", 9007199254740995L, 72057594037927936L, 72057594037927968L);
        // By way of a DOUBLE the FLOAT would be rounded twice.
        dueRead(SHARED, LONG, 18014399583223809L, "00000111", 18014399583223809L, 144115205255725056L, 144115196665790464L);
        dueStored(LONG, 9007199254740993L, NOT, NOT, NOT, 9007199254740993L, 72057594037927936L);
        dueStored(LONG, -9007199254740995L, NOT, NOT, NOT, -9007199254740995L, -72057594037927968L);
    }

    private static void boxesConvertByTheirKind() {
        CHECKS.sentence("Terms", "An object CONVERTS to a value kind if it is a box whose kind WIDENS to it, to the converted value;");
        for (int field : VALUE_FIELDS) {
            for (int from : new int[] {AN_ITEM, A_SPECIAL, A_TEXT, A_PLAIN}) {
                MemberInspection x = full();
                String call = "set(1, " + field + ", " + from + ")";
                CHECKS.due(call, x.set(A_SPECIAL, field, from), ARGUMENT);
                CHECKS.due(call, factsOf(x), fullFactsWithLast(0));
            }
        }
    }

    private static void nullIsNoValue() {
        CHECKS.sentence("Terms", "null does not.");
        for (int field : VALUE_FIELDS) {
            MemberInspection x = full();
            String call = "set(1, " + field + ", 4)";
            CHECKS.due(call, x.set(A_SPECIAL, field, NOTHING), ARGUMENT);
            CHECKS.due(call, factsOf(x), fullFactsWithLast(0));
        }
        CHECKS.due("sum of null and 3", full().invoke(AN_ITEM, SUM, 2, NOTHING * 9 + A_BYTE), ARGUMENT);
        CHECKS.due("sum of 3 and null", full().invoke(AN_ITEM, SUM, 2, A_BYTE * 9 + NOTHING), ARGUMENT);
        CHECKS.due("twice of null", full().invoke(AN_ITEM, TWICE, 1, NOTHING * 9), ARGUMENT);
        CHECKS.due("div of null and 3", full().invoke(AN_ITEM, DIV, 2, NOTHING * 9 + A_BYTE), ARGUMENT);
        CHECKS.due("div of 3 and null", full().invoke(AN_ITEM, DIV, 2, A_BYTE * 9 + NOTHING), ARGUMENT);
        CHECKS.due("self of null", full().invoke(AN_ITEM, SELF, 1, NOTHING * 9), ARGUMENT);
    }

    private static void objectsConvertToTheirClasses() {
        CHECKS.sentence("Terms", "It CONVERTS to TEXT, ITEM or any object if it is null or one of these.");
        int[] fields = {TEXT, NEXT, ANY};
        // A digit for each handle of full(), RESULT too: 1 where the field takes what it holds.
        String[] taken = {"001010000", "110010100", "111111111"};
        int[] sorts = {10, 11, 9, 12, 0, 4, 10, 2, 5};
        for (int i = 0; i < fields.length; i++) {
            for (int from = 0; from <= RESULT; from++) {
                MemberInspection x = full();
                boolean isTaken = taken[i].charAt(from) == '1';
                String call = "set(0, " + fields[i] + ", " + from + ")";
                CHECKS.due(call, x.set(AN_ITEM, fields[i], from), isTaken ? DONE : ARGUMENT);
                x.get(AN_ITEM, fields[i]);
                int[] sortsBefore = {9, 11, 12};
                CHECKS.due(call + ": sort", x.look(RESULT, false), isTaken ? sorts[from] : sortsBefore[i]);
            }
        }
    }
}
