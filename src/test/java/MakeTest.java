/** Promise 4 make. */
public final class MakeTest {

    private static final Checks CHECKS = new Checks();

    public static void main(String[] args) {
        outcomesOfEachConstructor();
        refusalsKeepTheResult();
        newObjectsHaveTheirValues();
        newItemsHaveTheirFields();
        eachCallMakesAnotherObject();
        badTypesAreRefused();
        CHECKS.end();
    }

    private static void outcomesOfEachConstructor() {
        int done = MemberInspection.DONE;
        int missing = MemberInspection.MISSING;
        int isAbstract = MemberInspection.ABSTRACT;
        int[] without = {done, isAbstract, missing, done, missing, done, missing, isAbstract};
        int[] with = {missing, missing, done, missing, missing, done, done, isAbstract};
        int[] sorts = {12, 0, 5, 9, 0, 10, 11, 0};
        for (int type = 0; type < 8; type++) {
            dueMade(type, false, without[type], sorts[type]);
            dueMade(type, true, with[type], sorts[type]);
        }
    }

    private static void dueMade(int type, boolean with, int outcome, int sort) {
        MemberInspection x = new MemberInspection();
        String call = "make(" + type + ", " + with + ", 3)";
        CHECKS.due(call, x.make(type, with, 3), outcome);
        CHECKS.due(call + " RESULT", x.look(8, false), outcome == MemberInspection.DONE ? sort : 0);
        CHECKS.due(call + " handle 0", x.look(0, false), 0);
    }

    private static void refusalsKeepTheResult() {
        MemberInspection x = new MemberInspection();
        x.make(2, true, 6);
        x.make(4, true, 1);
        x.make(1, false, 1);
        x.make(9, true, 1);
        CHECKS.due("RESULT after refusals", x.value(8), 6);
    }

    private static void newObjectsHaveTheirValues() {
        MemberInspection x = new MemberInspection();
        for (int v : new int[] {0, -5, Integer.MAX_VALUE, Integer.MIN_VALUE}) {
            x.make(2, true, v);
            CHECKS.due("INTEGER of " + v, x.value(8), v);
        }
        x.make(3, false, 4);
        CHECKS.due("number of the TEXT", x.value(8), 0);
    }

    private static void newItemsHaveTheirFields() {
        for (int v : new int[] {0, 9, -1, Integer.MAX_VALUE, Integer.MIN_VALUE}) {
            dueFields(5, true, v, v);
            dueFields(5, false, v, 0);
            dueFields(6, true, v, v + 1);
        }
    }

    private static void dueFields(int type, boolean with, int argument, int whole) {
        MemberInspection x = new MemberInspection();
        String call = "make(" + type + ", " + with + ", " + argument + ")";
        x.make(type, with, argument);
        x.hold(0, 8);
        int[] due = {whole, 0, 0, 0, 0, 0, 7, 100, 5};
        int[] sorts = {5, 2, 8, 0, 0, 0, 5, 6, 4};
        int fields = type == 6 ? 9 : 8;
        for (int field = 0; field < fields; field++) {
            CHECKS.due(call + " get " + field, x.get(0, field), MemberInspection.DONE);
            CHECKS.due(call + " sort of " + field, x.look(8, false), sorts[field]);
            CHECKS.due(call + " value of " + field, x.value(8), due[field]);
        }
    }

    private static void eachCallMakesAnotherObject() {
        MemberInspection x = new MemberInspection();
        x.make(5, true, 1);
        x.hold(0, 8);
        x.make(5, true, 2);
        x.hold(1, 8);
        x.getAs(0, 0, 4);
        CHECKS.due("whole of the first", x.last(), 1);
        CHECKS.due("the second is not the first", x.look(1, true), 1);
    }

    private static void badTypesAreRefused() {
        for (int type : new int[] {-1, 8, 9, 12, Integer.MIN_VALUE, Integer.MAX_VALUE}) {
            MemberInspection x = new MemberInspection();
            x.getAs(0, 7, 5);
            CHECKS.due("make(" + type + ", true, 1)", x.make(type, true, 1), MemberInspection.REFUSED);
            CHECKS.due("make(" + type + ", false, 1)", x.make(type, false, 1), MemberInspection.REFUSED);
            CHECKS.due("LAST after a bad type", x.last(), 100);
            CHECKS.due("RESULT after a bad type", x.look(8, false), 0);
        }
    }
}
