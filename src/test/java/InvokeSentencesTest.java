/** The sentences on METHODS in the Terms, and those of promise 8 invoke. */
public final class InvokeSentencesTest extends Sentences {

    private static final int[] COUNTS = {2, 2, 1, 2, 1, 1};
    // The handles of the arguments that a test puts; as xy.
    private static final int A = A_ZERO;
    private static final int B = A_BYTE;
    private static final int AB = A * 9 + B;

    public static void main(String[] args) {
        sumWraps();
        sumOfIntIsALong();
        tagOfNullFails();
        tagOfEachTextAndSort();
        twiceIsTheDouble();
        twiceIsStatic();
        divGoesTowardZero();
        divWraps();
        divByZeroFails();
        pickOfNullFails();
        pickOfAnItem();
        pickOfASpecial();
        selfTakesTheLowBits();
        selfIsTheItemItself();
        invokeTakesItsNumbers();
        invokeTakesItsNumberOfArguments();
        argumentsAreReadFromTheirHandles();
        secondOfOneArgumentIsNotRead();
        twiceLooksAtNoHandle();
        nullIsRefusedFirst();
        othersAreRefusedFirst();
        numberOfArgumentsIsRefusedNext();
        argumentsAreRefusedNext();
        argumentsNeverNarrow();
        failuresComeLast();
        failuresAreTold();
        resultIsANewBoxOrTheObject();
        CHECKS.end();
    }

    private static MemberInspection with(int kindA, long a, int kindB, long b) {
        MemberInspection x = full();
        x.put(A, kindA, a);
        x.put(B, kindB, b);
        return x;
    }

    private static void dueResult(String call, MemberInspection x, int handle, int method, int sort, long value) {
        CHECKS.due(call, x.invoke(handle, method, COUNTS[method], AB), DONE);
        dueIn(call, x, RESULT, sort, value);
        CHECKS.due(call + ": last()", x.last(), 0);
    }

    private static void dueFailure(String call, MemberInspection x, int handle, int method, long last) {
        CHECKS.due(call, x.invoke(handle, method, COUNTS[method], AB), TARGET);
        CHECKS.due(call + ": last()", x.last(), last);
        dueIn(call + ": RESULT stays", x, RESULT, INT + 1, 77);
    }

    private static void dueSum(int a, long b, long ofItem) {
        dueResult("sum(" + a + ", " + b + ")", with(INT, a, LONG, b), AN_ITEM, SUM, LONG + 1, ofItem);
        dueResult("sum(" + a + ", " + b + ") of a SPECIAL", with(INT, a, LONG, b), A_SPECIAL, SUM, LONG + 1, ofItem + 11);
    }

    private static void sumWraps() {
        CHECKS.sentence("Terms", "0 sum (INT a, LONG b): LONG a + b + whole, wraps.");
        dueSum(0, Long.MAX_VALUE - 22, Long.MAX_VALUE - 11);
        dueSum(1, Long.MAX_VALUE - 11, Long.MIN_VALUE);
        dueSum(Integer.MAX_VALUE, Long.MAX_VALUE, -9223372034707292151L);
        dueSum(Integer.MIN_VALUE, Long.MIN_VALUE, 9223372034707292171L);
        dueSum(-12, Long.MIN_VALUE, Long.MAX_VALUE);
    }

    private static void sumOfIntIsALong() {
        CHECKS.sentence("Terms", "0 sum (INT a, LONG b): LONG a + b + whole, wraps.");
        dueSum(0, 0, 11);
        dueSum(-11, 0, 0);
        dueSum(Integer.MAX_VALUE, 0, 2147483658L);
        dueSum(Integer.MIN_VALUE, 0, -2147483637L);
        dueSum(Integer.MAX_VALUE, Integer.MAX_VALUE, 4294967305L);
        MemberInspection x = with(INT, Integer.MIN_VALUE, LONG, -1);
        x.set(AN_ITEM, WHOLE, A);
        dueResult("sum of the least INTs", x, AN_ITEM, SUM, LONG + 1, -4294967297L);
    }

    private static void tagOfNullFails() {
        CHECKS.sentence("Terms", "1 tag (TEXT s, any o): s is null: fails with NULL;");
        for (int second = 0; second <= RESULT; second++) {
            for (int handle = AN_ITEM; handle <= A_SPECIAL; handle++) {
                MemberInspection x = full();
                CHECKS.due("tag of null and " + second, x.invoke(handle, TAG, 2, NOTHING * 9 + second), TARGET);
                CHECKS.due("tag of null: the state", factsOf(x), fullFactsWithLast(2));
            }
        }
    }

    private static void tagOfEachTextAndSort() {
        CHECKS.sentence("Terms", "else INT 100 times s's number plus the sort of o (see look).");
        int[] sorts = {10, 11, 9, 12, 0, 4, 10, 2, 5};
        for (int second = 0; second <= RESULT; second++) {
            MemberInspection x = full();
            CHECKS.due("tag of 6 and " + second, x.invoke(AN_ITEM, TAG, 2, A_TEXT * 9 + second), DONE);
            dueIn("tag of 6 and " + second, x, RESULT, INT + 1, 600 + sorts[second]);
        }
        for (int sort = BOOLEAN; sort <= SORT_TEXT; sort++) {
            dueResult("tag of 9 and sort", with(SORT_TEXT, 9, sort, 0), A_SPECIAL, TAG, INT + 1, 900 + sort + 1);
        }
        MemberInspection x = with(SORT_TEXT, 0, INT, 0);
        x.hold(B, NOTHING);
        dueResult("tag of 0 and null", x, AN_ITEM, TAG, INT + 1, 0);
        x.put(A, SORT_TEXT, 9);
        x.hold(B, A_PLAIN);
        dueResult("tag of 9 and a PLAIN object", x, AN_ITEM, TAG, INT + 1, 912);
    }

    private static void twiceIsTheDouble() {
        CHECKS.sentence("Terms", "2 twice (DOUBLE x): DOUBLE x + x; static.");
        long[] pairs = {0, 0, 1, 2, -3, -6, 9007199254740993L, 18014398509481984L,
            4611686018427387392L, 9223372036854774784L, 1L << 62, Long.MAX_VALUE, Long.MAX_VALUE, Long.MAX_VALUE,
            -(1L << 62), Long.MIN_VALUE, Long.MIN_VALUE, Long.MIN_VALUE};
        for (int i = 0; i < pairs.length; i += 2) {
            dueResult("twice(" + pairs[i] + ")", with(DOUBLE, pairs[i], INT, 0), AN_ITEM, TWICE, DOUBLE + 1, pairs[i + 1]);
        }
        dueResult("twice of a BYTE", with(BYTE, -128, INT, 0), AN_ITEM, TWICE, DOUBLE + 1, -2048);
        dueResult("twice of a CHAR", with(CHAR, 65535, INT, 0), AN_ITEM, TWICE, DOUBLE + 1, 1048560);
        dueResult("twice of a FLOAT", with(FLOAT, 16777219, INT, 0), AN_ITEM, TWICE, DOUBLE + 1, 33554440);
        dueResult("twice of a LONG", with(LONG, 9007199254740993L, INT, 0), AN_ITEM, TWICE, DOUBLE + 1, 144115188075855872L);
    }

    private static void twiceIsStatic() {
        CHECKS.sentence("Terms", "2 twice (DOUBLE x): DOUBLE x + x; static.");
        for (int handle = 0; handle <= RESULT; handle++) {
            dueResult("twice on " + handle, with(INT, 5, INT, 0), handle, TWICE, DOUBLE + 1, 80);
        }
    }

    private static void dueQuotient(int a, int b, int due) {
        String call = "div(" + a + ", " + b + ")";
        dueResult(call, with(INT, a, INT, b), AN_ITEM, DIV, INT + 1, due);
        dueResult(call + " of a SPECIAL", with(INT, a, INT, b), A_SPECIAL, DIV, INT + 1, due);
    }

    private static void divGoesTowardZero() {
        CHECKS.sentence("Terms", "3 div (INT a, INT b): INT a / b (toward 0; wraps),");
        dueQuotient(7, 2, 3);
        dueQuotient(-7, 2, -3);
        dueQuotient(7, -2, -3);
        dueQuotient(-7, -2, 3);
        dueQuotient(0, -5, 0);
        dueQuotient(1, Integer.MIN_VALUE, 0);
        dueQuotient(Integer.MAX_VALUE, Integer.MIN_VALUE, 0);
        dueQuotient(Integer.MIN_VALUE, Integer.MAX_VALUE, -1);
    }

    private static void divWraps() {
        CHECKS.sentence("Terms", "3 div (INT a, INT b): INT a / b (toward 0; wraps),");
        dueQuotient(Integer.MIN_VALUE, -1, Integer.MIN_VALUE);
        dueQuotient(Integer.MAX_VALUE, -1, -2147483647);
        dueQuotient(Integer.MIN_VALUE, 1, Integer.MIN_VALUE);
        dueQuotient(Integer.MIN_VALUE, Integer.MIN_VALUE, 1);
    }

    private static void divByZeroFails() {
        CHECKS.sentence("Terms", "b 0: fails with ARITHMETIC.");
        for (int a : new int[] {0, 1, -1, Integer.MAX_VALUE, Integer.MIN_VALUE}) {
            for (int kind : new int[] {BYTE, CHAR, SHORT, INT}) {
                dueFailure("div(" + a + ", 0)", with(INT, a, kind, 0), AN_ITEM, DIV, 1);
                dueFailure("div(" + a + ", 0) of a SPECIAL", with(INT, a, kind, 0), A_SPECIAL, DIV, 1);
            }
        }
    }

    private static void pickOfNullFails() {
        CHECKS.sentence("Terms", "4 pick (ITEM o): o is null: fails with NULL;");
        for (int handle = AN_ITEM; handle <= A_SPECIAL; handle++) {
            MemberInspection x = full();
            CHECKS.due("pick(null) of " + handle, x.invoke(handle, PICK, 1, NOTHING * 9), TARGET);
            CHECKS.due("pick(null) of " + handle, factsOf(x), fullFactsWithLast(2));
        }
    }

    /** Pick by one of the two items of the other, or of itself. */
    private static void duePick(MemberInspection x, int handle, int of, int due) {
        String call = "pick(" + of + ") of " + handle;
        CHECKS.due(call, x.invoke(handle, PICK, 1, of * 9), DONE);
        dueIn(call, x, RESULT, INT + 1, due);
    }

    private static MemberInspection withWholes(int ofItem, int ofSpecial) {
        MemberInspection x = full();
        setTo(x, AN_ITEM, WHOLE, INT, ofItem);
        setTo(x, A_SPECIAL, WHOLE, INT, ofSpecial);
        return x;
    }

    private static void pickOfAnItem() {
        CHECKS.sentence("Terms", "else of an ITEM that is no SPECIAL: INT its whole less o's whole;");
        duePick(full(), AN_ITEM, A_SPECIAL, 11 - 22);
        duePick(full(), AN_ITEM, ITEM_AGAIN, 0);
        duePick(withWholes(Integer.MIN_VALUE, 1), AN_ITEM, A_SPECIAL, Integer.MAX_VALUE);
        duePick(withWholes(Integer.MAX_VALUE, -1), AN_ITEM, A_SPECIAL, Integer.MIN_VALUE);
        duePick(withWholes(0, Integer.MIN_VALUE), AN_ITEM, A_SPECIAL, Integer.MIN_VALUE);
        duePick(withWholes(-1, Integer.MIN_VALUE), AN_ITEM, A_SPECIAL, Integer.MAX_VALUE);
    }

    private static void pickOfASpecial() {
        CHECKS.sentence("Terms", "of a SPECIAL: INT its extra plus o's whole; both wrap.");
        duePick(full(), A_SPECIAL, AN_ITEM, 9 + 11);
        duePick(full(), A_SPECIAL, A_SPECIAL, 9 + 22);
        duePick(withWholes(Integer.MAX_VALUE, 0), A_SPECIAL, AN_ITEM, -2147483640);
        duePick(withWholes(Integer.MIN_VALUE, 0), A_SPECIAL, AN_ITEM, -2147483639);
        MemberInspection most = withWholes(Integer.MAX_VALUE, 0);
        setTo(most, A_SPECIAL, EXTRA, SHORT, 32767);
        duePick(most, A_SPECIAL, AN_ITEM, -2147450882);
        MemberInspection least = withWholes(Integer.MIN_VALUE, 0);
        setTo(least, A_SPECIAL, EXTRA, SHORT, -32768);
        duePick(least, A_SPECIAL, AN_ITEM, 2147450880);
    }

    private static void selfTakesTheLowBits() {
        CHECKS.sentence("Terms", "5 self (SHORT s): its small becomes the low 8 bits of s; the ITEM itself.");
        int[] pairs = {0, 0, 127, 127, 128, -128, 255, -1, 256, 0, 257, 1, -1, -1, -128, -128, -129, 127,
            -256, 0, 32767, -1, -32768, 0};
        for (int i = 0; i < pairs.length; i += 2) {
            for (int handle = AN_ITEM; handle <= A_SPECIAL; handle++) {
                MemberInspection x = with(SHORT, pairs[i], INT, 0);
                CHECKS.due("self(" + pairs[i] + ")", x.invoke(handle, SELF, 1, AB), DONE);
                dueField("self(" + pairs[i] + ")", x, handle, SMALL, BYTE + 1, pairs[i + 1]);
                dueField("small of the other", x, 1 - handle, SMALL, BYTE + 1, handle == AN_ITEM ? 0 : 3);
            }
        }
        MemberInspection x = with(BYTE, -128, INT, 0);
        x.invoke(AN_ITEM, SELF, 1, AB);
        dueField("self of a BYTE", x, AN_ITEM, SMALL, BYTE + 1, -128);
    }

    private static void selfIsTheItemItself() {
        CHECKS.sentence("Terms", "its small becomes the low 8 bits of s; the ITEM itself.");
        MemberInspection x = full();
        CHECKS.due("self by handle 6", x.invoke(ITEM_AGAIN, SELF, 1, A_BYTE * 9), DONE);
        dueIn("self by handle 6", x, RESULT, 10, 0);
        CHECKS.due("self by handle 6: same", x.look(RESULT, true), AN_ITEM);
        CHECKS.due("self by handle 1", x.invoke(A_SPECIAL, SELF, 1, A_BYTE * 9), DONE);
        dueIn("self by handle 1", x, RESULT, 11, 0);
        CHECKS.due("self by RESULT", x.invoke(RESULT, SELF, 1, A_BYTE * 9), DONE);
        CHECKS.due("self by RESULT: same", x.look(RESULT, true), A_SPECIAL);
    }

    private static void invokeTakesItsNumbers() {
        CHECKS.sentence("Promise 8", "Invokes METHOD 0 .. 5 on what the handle 0 .. 8 holds,");
        for (int bad : outside(0, 5)) {
            CHECKS.due("invoke(0, " + bad + ", 1, 63)", full().invoke(AN_ITEM, bad, 1, A_BYTE * 9), REFUSED);
        }
        for (int bad : outside(0, 8)) {
            CHECKS.due("invoke(" + bad + ", 0, 2, 70)", full().invoke(bad, SUM, 2, A_BYTE * 10), REFUSED);
            CHECKS.due("invoke(" + bad + ", 2, 1, 63)", full().invoke(bad, TWICE, 1, A_BYTE * 9), REFUSED);
        }
        CHECKS.due("invoke(0, 0, 2, 70)", full().invoke(AN_ITEM, SUM, 2, A_BYTE * 10), DONE);
        CHECKS.due("invoke(0, 5, 1, 63)", full().invoke(AN_ITEM, SELF, 1, A_BYTE * 9), DONE);
        CHECKS.due("invoke(8, 5, 1, 63)", full().invoke(RESULT, SELF, 1, A_BYTE * 9), ARGUMENT);
    }

    private static void invokeTakesItsNumberOfArguments() {
        CHECKS.sentence("Promise 8", "with n arguments, n 0 .. 2:");
        for (int method = SUM; method <= SELF; method++) {
            for (int bad : outside(0, 2)) {
                CHECKS.due("invoke(0, " + method + ", " + bad + ", 70)", full().invoke(AN_ITEM, method, bad, 70), REFUSED);
            }
            CHECKS.due("invoke(0, " + method + ", 0, 70)", full().invoke(AN_ITEM, method, 0, 70), ARGUMENT);
        }
        CHECKS.due("invoke(0, 5, 1, 70)", full().invoke(AN_ITEM, SELF, 1, 70), DONE);
        CHECKS.due("invoke(0, 0, 2, 70)", full().invoke(AN_ITEM, SUM, 2, 70), DONE);
    }

    private static void argumentsAreReadFromTheirHandles() {
        CHECKS.sentence("Promise 8", "xy / 9 is the handle of the first, xy % 9 of the second (xy 0 .. 80).");
        for (int xy = 0; xy <= 80; xy++) {
            MemberInspection x = full();
            x.cast(AN_ITEM, ITEM_CLASS);
            for (int handle = 0; handle <= 7; handle++) {
                x.put(handle, INT, 100 + handle);
            }
            boolean isGood = xy / 9 != RESULT && xy % 9 != RESULT;
            CHECKS.due("sum of " + xy, x.invoke(RESULT, SUM, 2, xy), isGood ? DONE : ARGUMENT);
            if (isGood) {
                dueIn("sum of " + xy, x, RESULT, LONG + 1, 211 + xy / 9 + xy % 9);
            }
        }
        dueXy(0, ARGUMENT, 77);
        dueXy(80, DONE, 1);
        dueXy(RESULT * 9 + A_BYTE, DONE, 25);
        dueXy(A_BYTE * 9 + RESULT, DONE, 0);
        for (int bad : outside(0, 80)) {
            CHECKS.due("invoke(0, 3, 2, " + bad + ")", full().invoke(AN_ITEM, DIV, 2, bad), REFUSED);
        }
    }

    private static void dueXy(int xy, int outcome, int quotient) {
        MemberInspection x = full();
        CHECKS.due("div of " + xy, x.invoke(AN_ITEM, DIV, 2, xy), outcome);
        dueIn("div of " + xy, x, RESULT, INT + 1, quotient);
    }

    private static void secondOfOneArgumentIsNotRead() {
        CHECKS.sentence("Promise 8", "xy / 9 is the handle of the first, xy % 9 of the second (xy 0 .. 80).");
        for (int second = 0; second <= RESULT; second++) {
            CHECKS.due("twice and " + second, full().invoke(AN_ITEM, TWICE, 1, A_BYTE * 9 + second), DONE);
            CHECKS.due("pick and " + second, full().invoke(AN_ITEM, PICK, 1, A_SPECIAL * 9 + second), DONE);
            CHECKS.due("self and " + second, full().invoke(AN_ITEM, SELF, 1, A_BYTE * 9 + second), DONE);
        }
    }

    private static void twiceLooksAtNoHandle() {
        CHECKS.sentence("Promise 8", "twice: the handle is not looked at;");
        for (int handle = 0; handle <= RESULT; handle++) {
            CHECKS.due("twice of 3 on " + handle, full().invoke(handle, TWICE, 1, A_BYTE * 9), DONE);
            CHECKS.due("twice of null on " + handle, full().invoke(handle, TWICE, 1, NOTHING * 9), ARGUMENT);
            CHECKS.due("twice of none on " + handle, full().invoke(handle, TWICE, 0, A_BYTE * 9), ARGUMENT);
            CHECKS.due("twice of two on " + handle, full().invoke(handle, TWICE, 2, A_BYTE * 9), ARGUMENT);
        }
    }

    /** Every method but twice, with any number of arguments and any first one. */
    private static void dueOnAny(int handle, int due) {
        for (int method = SUM; method <= SELF; method++) {
            for (int n = 0; method != TWICE && n <= 2; n++) {
                for (int first = 0; first <= RESULT; first++) {
                    MemberInspection x = full();
                    String call = "invoke(" + handle + ", " + method + ", " + n + ", " + (first * 9 + A_ZERO) + ")";
                    CHECKS.due(call, x.invoke(handle, method, n, first * 9 + A_ZERO), due);
                    CHECKS.due(call + ": last()", x.last(), 0);
                }
            }
        }
    }

    private static void nullIsRefusedFirst() {
        CHECKS.sentence("Promise 8", "else null: NULL;");
        dueOnAny(NOTHING, NULL);
    }

    private static void othersAreRefusedFirst() {
        CHECKS.sentence("Promise 8", "else null: NULL; no ITEM: ARGUMENT.");
        dueOnAny(A_TEXT, ARGUMENT);
        dueOnAny(A_PLAIN, ARGUMENT);
        dueOnAny(A_BYTE, ARGUMENT);
        dueOnAny(RESULT, ARGUMENT);
    }

    private static void numberOfArgumentsIsRefusedNext() {
        CHECKS.sentence("Promise 8", "n is not the METHOD's number of arguments: ARGUMENT.");
        int[] first = {A_BYTE, A_TEXT, A_BYTE, A_BYTE, AN_ITEM, A_BYTE};
        for (int method = SUM; method <= SELF; method++) {
            for (int n = 0; n <= 2; n++) {
                MemberInspection x = full();
                String call = "invoke(1, " + method + ", " + n + ")";
                int due = n == COUNTS[method] ? DONE : ARGUMENT;
                CHECKS.due(call, x.invoke(A_SPECIAL, method, n, first[method] * 9 + A_BYTE), due);
                if (due != DONE) {
                    CHECKS.due(call, factsOf(x), fullFactsWithLast(0));
                }
            }
        }
    }

    private static void dueArgument(String call, int method, int first, int second) {
        MemberInspection x = full();
        CHECKS.due(call, x.invoke(AN_ITEM, method, COUNTS[method], first * 9 + second), ARGUMENT);
        CHECKS.due(call, factsOf(x), fullFactsWithLast(0));
    }

    private static void argumentsAreRefusedNext() {
        CHECKS.sentence("Promise 8", "One of them does not CONVERT: ARGUMENT.");
        for (int wrong : new int[] {AN_ITEM, A_SPECIAL, A_TEXT, A_PLAIN, NOTHING}) {
            dueArgument("sum(wrong, 3)", SUM, wrong, A_BYTE);
            dueArgument("sum(3, wrong)", SUM, A_BYTE, wrong);
            dueArgument("sum(wrong, wrong)", SUM, wrong, wrong);
            dueArgument("twice(wrong)", TWICE, wrong, A_BYTE);
            dueArgument("div(wrong, 3)", DIV, wrong, A_BYTE);
            dueArgument("div(3, wrong)", DIV, A_BYTE, wrong);
            dueArgument("self(wrong)", SELF, wrong, A_BYTE);
        }
        for (int wrong : new int[] {AN_ITEM, A_SPECIAL, A_PLAIN, A_ZERO, RESULT}) {
            dueArgument("tag(wrong, 3)", TAG, wrong, A_BYTE);
        }
        for (int wrong : new int[] {A_TEXT, A_PLAIN, A_ZERO, RESULT}) {
            dueArgument("pick(wrong)", PICK, wrong, AN_ITEM);
        }
    }

    private static void dueKinds(int method, boolean isFirst, String taken) {
        for (int kind = BOOLEAN; kind <= DOUBLE; kind++) {
            MemberInspection x = isFirst ? with(kind, 1, BYTE, 1) : with(BYTE, 1, kind, 1);
            int due = taken.charAt(kind) == '1' ? DONE : ARGUMENT;
            String call = "method " + method + " with kind " + kind + (isFirst ? " first" : " second");
            CHECKS.due(call, x.invoke(AN_ITEM, method, COUNTS[method], AB), due);
        }
    }

    private static void argumentsNeverNarrow() {
        CHECKS.sentence("Promise 8", "One of them does not CONVERT: ARGUMENT.");
        dueKinds(SUM, true, "01111000");
        dueKinds(SUM, false, "01111100");
        dueKinds(TWICE, true, "01111111");
        dueKinds(DIV, true, "01111000");
        dueKinds(DIV, false, "01111000");
        dueKinds(SELF, true, "01010000");
    }

    private static void failuresComeLast() {
        CHECKS.sentence("Promise 8", "The METHOD fails: TARGET, LAST is 1 for ARITHMETIC, 2 for NULL.");
        dueArgument("div(ITEM, 0)", DIV, AN_ITEM, A_ZERO);
        dueArgument("div(null, 0)", DIV, NOTHING, A_ZERO);
        for (int n = 0; n <= 1; n++) {
            MemberInspection x = full();
            CHECKS.due("div by 0 with " + n, x.invoke(AN_ITEM, DIV, n, A_BYTE * 9 + A_ZERO), ARGUMENT);
            CHECKS.due("tag of null with " + n, x.invoke(AN_ITEM, TAG, n, NOTHING * 9), ARGUMENT);
            CHECKS.due("pick of null with " + 2 * n, x.invoke(AN_ITEM, PICK, 2 * n, NOTHING * 9), ARGUMENT);
            CHECKS.due("last()", x.last(), 0);
        }
        CHECKS.due("div by LONG 0", with(INT, 1, LONG, 0).invoke(AN_ITEM, DIV, 2, AB), ARGUMENT);
        CHECKS.due("div of LONG by 0", with(LONG, 1, INT, 0).invoke(AN_ITEM, DIV, 2, AB), ARGUMENT);
        CHECKS.due("null's div by 0", full().invoke(NOTHING, DIV, 2, A_BYTE * 9 + A_ZERO), NULL);
        CHECKS.due("a TEXT's pick of null", full().invoke(A_TEXT, PICK, 1, NOTHING * 9), ARGUMENT);
    }

    private static void failuresAreTold() {
        CHECKS.sentence("Promise 8", "The METHOD fails: TARGET, LAST is 1 for ARITHMETIC, 2 for NULL.");
        MemberInspection x = full();
        CHECKS.due("div(3, 0)", x.invoke(AN_ITEM, DIV, 2, A_BYTE * 9 + A_ZERO), TARGET);
        CHECKS.due("div(3, 0): last()", x.last(), 1);
        CHECKS.due("tag(null, 3)", x.invoke(A_SPECIAL, TAG, 2, NOTHING * 9 + A_BYTE), TARGET);
        CHECKS.due("tag(null, 3): last()", x.last(), 2);
        CHECKS.due("div(0, 0)", x.invoke(A_SPECIAL, DIV, 2, A_ZERO * 9 + A_ZERO), TARGET);
        CHECKS.due("div(0, 0): last()", x.last(), 1);
        CHECKS.due("pick(null)", x.invoke(AN_ITEM, PICK, 1, NOTHING * 9), TARGET);
        CHECKS.due("pick(null): last()", x.last(), 2);
        CHECKS.due("div(0, 3)", x.invoke(AN_ITEM, DIV, 2, A_ZERO * 9 + A_BYTE), DONE);
        CHECKS.due("div(0, 3): last()", x.last(), 0);
    }

    private static void resultIsANewBoxOrTheObject() {
        CHECKS.sentence("Promise 8", "Else RESULT is the value in a new box, or the object. DONE.");
        int[] first = {A_BYTE, A_TEXT, A_BYTE, A_BYTE, AN_ITEM, A_BYTE};
        int[] sorts = {LONG + 1, INT + 1, DOUBLE + 1, INT + 1, INT + 1, 11};
        long[] values = {28, 602, 48, 1, 20, 0};
        for (int method = SUM; method <= SELF; method++) {
            MemberInspection x = full();
            String call = "method " + method;
            CHECKS.due(call, x.invoke(A_SPECIAL, method, COUNTS[method], first[method] * 9 + A_BYTE), DONE);
            dueIn(call, x, RESULT, sorts[method], values[method]);
            CHECKS.due(call + ": same", x.look(RESULT, true), method == SELF ? A_SPECIAL : -2);
            dueIn(call + ": the argument stays", x, A_BYTE, BYTE + 1, 3);
            dueField(call + ": whole stays", x, A_SPECIAL, WHOLE, INT + 1, 22);
        }
    }
}
