/** Every promise: long mixed runs of calls, each answer beside that of Java's own reflection. */
public final class ReflectionTest {

    private static final Checks CHECKS = new Checks();
    private static final int RUNS = 4000;
    // A turn makes at most four calls: a run stays within the 512 that are promised.
    private static final int TURNS = 128;
    private static final long[] VALUES = {
        0, 1, -1, 2, 7, 10, 127, 128, -128, -129, 255, 256, 32767, 32768, 65535, 65536, 16777217,
        Integer.MAX_VALUE, Integer.MIN_VALUE, 1L << 32, (1L << 53) + 1, (1L << 60) + (1L << 36) + 1,
        Long.MAX_VALUE, Long.MIN_VALUE};

    private final MemberInspection program = new MemberInspection();
    private final ReflectionModel model = new ReflectionModel();
    private final int run;
    private long state;

    private ReflectionTest(int run) {
        this.run = run;
        state = run * 0x9E3779B97F4A7C15L + 1;
    }

    public static void main(String[] args) throws ReflectiveOperationException {
        for (int run = 0; run < RUNS; run++) {
            new ReflectionTest(run).runCalls();
        }
        CHECKS.end();
    }

    private void runCalls() throws ReflectiveOperationException {
        for (int turn = 0; turn < TURNS; turn++) {
            request();
            CHECKS.due("run " + run + ": last()", program.last(), model.last());
            look();
        }
    }

    /** A number below the bound; the same in every run of this test. */
    private int pick(int bound) {
        state = state * 6364136223846793005L + 1442695040888963407L;
        return (int) ((state >>> 33) % bound);
    }

    /** A number of least .. most, now and then one just beyond or far beyond. */
    private int number(int least, int most) {
        if (pick(60) != 0) {
            return least + pick(most - least + 1);
        }
        int[] beyond = {least - 1, most + 1, Integer.MIN_VALUE, Integer.MAX_VALUE};
        return beyond[pick(beyond.length)];
    }

    private long anyValue() {
        return pick(4) == 0 ? state : pick(3) == 0 ? pick(40) - 20 : VALUES[pick(VALUES.length)];
    }

    private void request() throws ReflectiveOperationException {
        switch (pick(12)) {
            case 0, 1 -> put();
            case 2 -> hold(number(0, 7), number(-1, 8));
            case 3, 4 -> make();
            case 5 -> get();
            case 6 -> getAs();
            case 7, 8 -> set();
            case 9, 10 -> invoke();
            default -> cast();
        }
    }

    private void due(String call, long got, long want) {
        CHECKS.due("run " + run + ": " + call, got, want);
    }

    private void put() {
        int to = number(0, 7);
        int sort = number(0, 8);
        long v = anyValue();
        due("put(" + to + ", " + sort + ", " + v + ")", program.put(to, sort, v), model.put(to, sort, v));
    }

    private void hold(int to, int from) {
        due("hold(" + to + ", " + from + ")", program.hold(to, from), model.hold(to, from));
    }

    private void make() throws ReflectiveOperationException {
        int type = number(0, 7);
        boolean with = pick(2) == 0;
        int argument = (int) anyValue();
        due("make(" + type + ", " + with + ", " + argument + ")",
            program.make(type, with, argument), model.make(type, with, argument));
        if (pick(2) == 0) {
            hold(pick(8), 8);
        }
    }

    private void get() throws ReflectiveOperationException {
        int handle = number(0, 8);
        int field = number(0, 8);
        due("get(" + handle + ", " + field + ")", program.get(handle, field), model.get(handle, field));
    }

    private void getAs() throws ReflectiveOperationException {
        int handle = number(0, 8);
        int field = number(0, 8);
        int kind = number(0, 7);
        due("getAs(" + handle + ", " + field + ", " + kind + ")",
            program.getAs(handle, field, kind), model.getAs(handle, field, kind));
    }

    private void set() throws ReflectiveOperationException {
        int handle = number(0, 8);
        int field = number(0, 8);
        int from = number(0, 8);
        due("set(" + handle + ", " + field + ", " + from + ")",
            program.set(handle, field, from), model.set(handle, field, from));
    }

    private void invoke() throws ReflectiveOperationException {
        int handle = number(0, 8);
        int method = number(0, 5);
        int n = pick(4) == 0 ? number(0, 2) : method == 0 || method == 1 || method == 3 ? 2 : 1;
        int xy = number(0, 80);
        due("invoke(" + handle + ", " + method + ", " + n + ", " + xy + ")",
            program.invoke(handle, method, n, xy), model.invoke(handle, method, n, xy));
    }

    private void cast() {
        int handle = number(0, 8);
        int type = number(0, 7);
        due("cast(" + handle + ", " + type + ")", program.cast(handle, type), model.cast(handle, type));
    }

    private void look() {
        int handle = pick(3) == 0 ? 8 : number(0, 8);
        switch (pick(5)) {
            case 0, 1 -> due("value(" + handle + ")", program.value(handle), model.value(handle));
            case 2 -> due("look(" + handle + ", false)", program.look(handle, false), model.look(handle, false));
            case 3 -> due("look(" + handle + ", true)", program.look(handle, true), model.look(handle, true));
            default -> typed(number(0, 12), number(0, 12), number(0, 3));
        }
    }

    private void typed(int x, int y, int what) {
        due("typed(" + x + ", " + y + ", " + what + ")", program.typed(x, y, what), model.typed(x, y, what));
    }
}
