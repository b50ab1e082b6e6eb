/** Promises 9 cast and 13 typed. */
public final class TypesTest {

    private static final Checks CHECKS = new Checks();
    private static final int DONE = MemberInspection.DONE;
    private static final int CAST = MemberInspection.CAST;
    private static final int REFUSED = MemberInspection.REFUSED;

    // A row for each type, a digit for each other type: 1 where the first takes the second.
    private static final String[] TAKES = {
        "1111111101111",
        "0110000000000",
        "0010000000000",
        "0001000000000",
        "0000101100000",
        "0000011000000",
        "0000001000000",
        "0000000100000",
        "0000000010000",
        "0000000001000",
        "0000000000111",
        "0000000000011",
        "0000000000001"};
    // The type of each sort of object.
    private static final int[] TYPE_OF_SORT = {-1, 0, 1, 0, 1, 2, 1, 1, 1, 3, 5, 6, 0};

    public static void main(String[] args) {
        typedTakes();
        typedOfOneType();
        typedRefusesBadNumbers();
        castsOfEachSort();
        castKeepsTheObject();
        castOfNullClearsTheResult();
        castRefusesBadNumbers();
        CHECKS.end();
    }

    private static void typedTakes() {
        MemberInspection x = new MemberInspection();
        for (int a = 0; a <= 12; a++) {
            for (int b = 0; b <= 12; b++) {
                CHECKS.due("typed(" + a + ", " + b + ", 0)", x.typed(a, b, 0), TAKES[a].charAt(b) - '0');
            }
        }
    }

    private static void typedOfOneType() {
        int[] above = {-2, 0, 1, 0, -2, 0, 5, 0, -2, 0, 0, 0, 0};
        int[] elements = {-2, -2, -2, -2, -2, -2, -2, -2, -2, 8, 0, 5, 6};
        int[] isAbstract = {0, 1, 0, 0, 1, 0, 0, 1, 1, 1, 1, 1, 1};
        MemberInspection x = new MemberInspection();
        for (int type = 0; type <= 12; type++) {
            for (int y : new int[] {0, 12, 13, -1, Integer.MIN_VALUE, Integer.MAX_VALUE}) {
                CHECKS.due("above " + type, x.typed(type, y, 1), above[type]);
                CHECKS.due("elements of " + type, x.typed(type, y, 2), elements[type]);
                CHECKS.due("abstract " + type, x.typed(type, y, 3), isAbstract[type]);
            }
        }
    }

    private static void typedRefusesBadNumbers() {
        MemberInspection x = new MemberInspection();
        for (int bad : new int[] {-1, 13, Integer.MIN_VALUE, Integer.MAX_VALUE}) {
            for (int what = -1; what <= 4; what++) {
                CHECKS.due("typed(" + bad + ", 0, " + what + ")", x.typed(bad, 0, what), REFUSED);
            }
            CHECKS.due("typed(0, " + bad + ", 0)", x.typed(0, bad, 0), REFUSED);
            CHECKS.due("typed(" + bad + ", " + bad + ", 0)", x.typed(bad, bad, 0), REFUSED);
        }
        for (int what : new int[] {-1, 4, Integer.MIN_VALUE, Integer.MAX_VALUE}) {
            CHECKS.due("typed(0, 0, " + what + ")", x.typed(0, 0, what), REFUSED);
        }
    }

    private static MemberInspection holding(int sort) {
        MemberInspection x = new MemberInspection();
        if (sort >= 10) {
            x.make(sort == 12 ? 0 : sort - 5, sort == 11, 0);
            x.hold(0, 8);
        } else if (sort > 0) {
            x.put(0, sort - 1, 1);
        }
        x.make(2, true, 77);
        return x;
    }

    private static void castsOfEachSort() {
        for (int sort = 0; sort <= 12; sort++) {
            for (int type = 0; type <= 7; type++) {
                MemberInspection x = holding(sort);
                boolean isTaken = sort == 0 || TAKES[type].charAt(TYPE_OF_SORT[sort]) == '1';
                String call = "cast of sort " + sort + " to " + type;
                CHECKS.due(call, x.cast(0, type), isTaken ? DONE : CAST);
                CHECKS.due(call + " RESULT", x.look(8, false), isTaken ? sort : 5);
                CHECKS.due(call + " LAST", x.last(), 0);
                CHECKS.due(call + " handle", x.look(0, false), sort);
            }
        }
    }

    private static void castKeepsTheObject() {
        for (int sort = 10; sort <= 12; sort++) {
            MemberInspection x = holding(sort);
            x.cast(0, 0);
            CHECKS.due("cast of sort " + sort + " same", x.look(8, true), 0);
        }
        MemberInspection x = holding(6);
        x.cast(0, 1);
        CHECKS.due("cast of a box keeps its value", x.value(8), 1);
        CHECKS.due("cast of RESULT", x.cast(8, 1), DONE);
        CHECKS.due("cast of RESULT to TEXT", x.cast(8, 3), CAST);
        CHECKS.due("RESULT stays after CAST", x.value(8), 1);
    }

    private static void castOfNullClearsTheResult() {
        for (int type = 0; type <= 7; type++) {
            MemberInspection x = holding(0);
            CHECKS.due("cast of null to " + type, x.cast(3, type), DONE);
            CHECKS.due("RESULT after a cast of null", x.look(8, false), 0);
        }
    }

    private static void castRefusesBadNumbers() {
        MemberInspection x = holding(10);
        x.getAs(0, 6, 4);
        int[][] bad = {{-1, 0}, {9, 0}, {0, -1}, {0, 8}, {3, 8}, {0, 12}, {Integer.MIN_VALUE, 0},
            {0, Integer.MAX_VALUE}};
        for (int[] row : bad) {
            CHECKS.due("cast(" + row[0] + ", " + row[1] + ")", x.cast(row[0], row[1]), REFUSED);
        }
        CHECKS.due("LAST after bad numbers", x.last(), 7);
        CHECKS.due("RESULT after bad numbers", x.value(8), 77);
    }
}
