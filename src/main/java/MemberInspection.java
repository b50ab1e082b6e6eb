/** Requests on the fields, methods, constructors and types of a few classes, by handles. */
public final class MemberInspection {

    public static final int DONE = 0;
    public static final int NULL = 1;
    public static final int ARGUMENT = 2;
    public static final int FINAL = 3;
    public static final int TARGET = 4;
    public static final int MISSING = 5;
    public static final int ABSTRACT = 6;
    public static final int CAST = 7;
    public static final int REFUSED = -1;

    private static final int BOOLEAN = 0;
    private static final int BYTE = 1;
    private static final int CHAR = 2;
    private static final int SHORT = 3;
    private static final int INT = 4;
    private static final int LONG = 5;
    private static final int FLOAT = 6;
    private static final int DOUBLE = 7;
    private static final int KINDS = 8;

    // What a field or a parameter wants is a kind of value or one of these three.
    private static final int WANTS_TEXT = 8;
    private static final int WANTS_ITEM = 9;
    private static final int WANTS_ANY = 10;

    private static final int WHOLE = 0;
    private static final int SMALL = 1;
    private static final int REAL = 2;
    private static final int TEXT = 3;
    private static final int ANY = 4;
    private static final int NEXT = 5;
    private static final int FIXED = 6;
    private static final int SHARED = 7;
    private static final int EXTRA = 8;
    private static final int FIELDS = 9;
    private static final int[] FIELD_WANTS = {
        INT, BYTE, DOUBLE, WANTS_TEXT, WANTS_ANY, WANTS_ITEM, INT, LONG, SHORT};

    private static final int SUM = 0;
    private static final int TAG = 1;
    private static final int TWICE = 2;
    private static final int DIV = 3;
    private static final int PICK = 4;
    private static final int SELF = 5;
    private static final int METHODS = 6;
    private static final int MOST_ARGUMENTS = 2;
    private static final int[] ARGUMENT_COUNTS = {2, 2, 1, 2, 1, 1};
    private static final int[] FIRST_WANTS = {INT, WANTS_TEXT, DOUBLE, INT, WANTS_ITEM, SHORT};
    // The methods of one argument have a second that wants nothing.
    private static final int[] SECOND_WANTS = {
        LONG, WANTS_ANY, WANTS_ANY, INT, WANTS_ANY, WANTS_ANY};

    private static final int FAILED_ARITHMETIC = 1;
    private static final int FAILED_NULL = 2;

    private static final int TYPE_ROOT = 0;
    private static final int TYPE_NUMBER = 1;
    private static final int TYPE_INTEGER = 2;
    private static final int TYPE_TEXT = 3;
    private static final int TYPE_THING = 4;
    private static final int TYPE_ITEM = 5;
    private static final int TYPE_SPECIAL = 6;
    private static final int TYPE_ROUGH = 7;
    private static final int TYPE_INT = 8;
    private static final int TYPE_ROOT_ARRAY = 10;
    private static final int TYPE_ITEM_ARRAY = 11;
    private static final int TYPE_SPECIAL_ARRAY = 12;
    private static final int CLASS_TYPES = 8;
    private static final int TYPES = 13;
    private static final int NO_TYPE = -2;
    private static final int[] TYPES_ABOVE = {
        NO_TYPE, TYPE_ROOT, TYPE_NUMBER, TYPE_ROOT, NO_TYPE, TYPE_ROOT, TYPE_ITEM, TYPE_ROOT,
        NO_TYPE, TYPE_ROOT, TYPE_ROOT, TYPE_ROOT, TYPE_ROOT};
    private static final int[] ELEMENT_TYPES = {
        NO_TYPE, NO_TYPE, NO_TYPE, NO_TYPE, NO_TYPE, NO_TYPE, NO_TYPE, NO_TYPE,
        NO_TYPE, TYPE_INT, TYPE_ROOT, TYPE_ITEM, TYPE_SPECIAL};
    private static final int[] ABSTRACT_TYPES = {0, 1, 0, 0, 1, 0, 0, 1, 1, 1, 1, 1, 1};
    private static final int[] BOX_TYPES = {
        TYPE_ROOT, TYPE_NUMBER, TYPE_ROOT, TYPE_NUMBER,
        TYPE_INTEGER, TYPE_NUMBER, TYPE_NUMBER, TYPE_NUMBER};

    private static final int TAKES = 0;
    private static final int ABOVE_OF = 1;
    private static final int ELEMENTS_OF = 2;
    private static final int ABSTRACT_OF = 3;

    private static final int NO_OBJECT = -1;
    private static final int NO_HANDLE = -2;
    private static final int SORT_TEXT = 8;
    private static final int RESULT = 8;
    private static final int HANDLES = 8;
    private static final int READ_HANDLES = 9;

    // RESULT stands behind the handles, as handle 8.
    private final Held[] handles;
    private long shared;
    private long lastTold;

    public MemberInspection() {
        handles = new Held[READ_HANDLES];
        shared = 100L;
        lastTold = 0L;
    }

    public int put(int to, int sort, long v) {
        if (!isBelow(to, HANDLES) || !isBelow(sort, KINDS + 1)) {
            return REFUSED;
        }
        lastTold = 0L;
        if (sort == SORT_TEXT) {
            handles[to] = new Text((int) Math.floorMod(v, 10L));
        } else {
            handles[to] = boxMade(sort, v);
        }
        return DONE;
    }

    public int hold(int to, int from) {
        if (!isBelow(to, HANDLES) || (from != NO_OBJECT && !isBelow(from, READ_HANDLES))) {
            return REFUSED;
        }
        lastTold = 0L;
        handles[to] = from == NO_OBJECT ? null : handles[from];
        return DONE;
    }

    public int make(int type, boolean with, int argument) {
        if (!isBelow(type, CLASS_TYPES)) {
            return REFUSED;
        }
        lastTold = 0L;
        boolean present = with ? hasIntConstructor(type) : hasEmptyConstructor(type);
        if (!present) {
            return MISSING;
        }
        if (ABSTRACT_TYPES[type] == 1) {
            return ABSTRACT;
        }
        return answer(newObject(type, with ? argument : 0));
    }

    public int get(int handle, int field) {
        if (!isBelow(handle, READ_HANDLES) || !isBelow(field, FIELDS)) {
            return REFUSED;
        }
        lastTold = 0L;
        Held owner = handles[handle];
        int refusal = ownerRefusal(owner, field);
        if (refusal != DONE) {
            return refusal;
        }
        return answer(fieldOf(owner, field));
    }

    public int getAs(int handle, int field, int kind) {
        if (!isBelow(handle, READ_HANDLES) || !isBelow(field, FIELDS) || !isBelow(kind, KINDS)) {
            return REFUSED;
        }
        lastTold = 0L;
        Held owner = handles[handle];
        int refusal = ownerRefusal(owner, field);
        if (refusal != DONE) {
            return refusal;
        }
        // The field any is an object even while it holds a box.
        if (FIELD_WANTS[field] >= KINDS || !widens(FIELD_WANTS[field], kind)) {
            return ARGUMENT;
        }
        Held found = fieldOf(owner, field);
        if (found instanceof Box box) {
            lastTold = box.toldAs(kind);
        }
        return DONE;
    }

    public int set(int handle, int field, int from) {
        if (!isBelow(handle, READ_HANDLES) || !isBelow(field, FIELDS)
                || !isBelow(from, READ_HANDLES)) {
            return REFUSED;
        }
        lastTold = 0L;
        Held owner = handles[handle];
        Held given = handles[from];
        int refusal = ownerRefusal(owner, field);
        if (refusal != DONE) {
            return refusal;
        }
        if (field == FIXED) {
            return FINAL;
        }
        if (!converts(given, FIELD_WANTS[field])) {
            return ARGUMENT;
        }
        store(owner, field, given);
        return DONE;
    }

    public int invoke(int handle, int method, int n, int xy) {
        if (!isBelow(handle, READ_HANDLES) || !isBelow(method, METHODS)
                || !isBelow(n, MOST_ARGUMENTS + 1) || !isBelow(xy, READ_HANDLES * READ_HANDLES)) {
            return REFUSED;
        }
        lastTold = 0L;
        Held receiver = handles[handle];
        int refusal = method == TWICE ? DONE : itemRefusal(receiver);
        if (refusal != DONE) {
            return refusal;
        }
        if (n != ARGUMENT_COUNTS[method]) {
            return ARGUMENT;
        }
        Held first = handles[xy / READ_HANDLES];
        Held second = handles[xy % READ_HANDLES];
        if (!converts(first, FIRST_WANTS[method]) || !converts(second, SECOND_WANTS[method])) {
            return ARGUMENT;
        }
        if (method == TWICE) {
            return answer(boxOfReal(DOUBLE, realOf(first) + realOf(first)));
        }
        if (receiver instanceof Item item) {
            return invokeOn(item, method, first, second);
        }
        return ARGUMENT;
    }

    public int cast(int handle, int type) {
        if (!isBelow(handle, READ_HANDLES) || !isBelow(type, CLASS_TYPES)) {
            return REFUSED;
        }
        lastTold = 0L;
        Held held = handles[handle];
        if (held != null && !takes(type, held.type())) {
            return CAST;
        }
        return answer(held);
    }

    public long last() {
        return lastTold;
    }

    public int look(int handle, boolean same) {
        if (!isBelow(handle, READ_HANDLES)) {
            return REFUSED;
        }
        return same ? leastHandleOf(handles[handle]) : sortOf(handles[handle]);
    }

    public long value(int handle) {
        if (!isBelow(handle, READ_HANDLES)) {
            return -1L;
        }
        Held held = handles[handle];
        return held == null ? 0L : held.told();
    }

    public int typed(int x, int y, int what) {
        if (!isBelow(x, TYPES)) {
            return REFUSED;
        }
        switch (what) {
            case TAKES:
                return typedTakes(x, y);
            case ABOVE_OF:
                return TYPES_ABOVE[x];
            case ELEMENTS_OF:
                return ELEMENT_TYPES[x];
            case ABSTRACT_OF:
                return ABSTRACT_TYPES[x];
            default:
                return REFUSED;
        }
    }

    private static boolean isBelow(int number, int bound) {
        return number >= 0 && number < bound;
    }

    private int answer(Held result) {
        handles[RESULT] = result;
        return DONE;
    }

    private int fail(int failure) {
        lastTold = failure;
        return TARGET;
    }

    private static Box boxOfWhole(int kind, long whole) {
        return new Box(kind, whole, (double) whole);
    }

    private static Box boxOfReal(int kind, double real) {
        return new Box(kind, 0L, real);
    }

    private static Box boxMade(int kind, long v) {
        switch (kind) {
            case BOOLEAN:
                return boxOfWhole(kind, v & 1L);
            case BYTE:
                return boxOfWhole(kind, (byte) v);
            case CHAR:
                return boxOfWhole(kind, v & 0xFFFFL);
            case SHORT:
                return boxOfWhole(kind, (short) v);
            case INT:
                return boxOfWhole(kind, (int) v);
            case FLOAT:
                return boxOfReal(kind, (float) v * 0.125f);
            case DOUBLE:
                return boxOfReal(kind, (double) v * 0.125);
            default:
                return boxOfWhole(LONG, v);
        }
    }

    private static boolean widens(int from, int to) {
        if (from == to) {
            return true;
        }
        if (from == BOOLEAN || to == BOOLEAN || to == CHAR) {
            return false;
        }
        if (from == CHAR) {
            return to >= INT;
        }
        return from < to;
    }

    private static boolean converts(Held held, int wanted) {
        if (wanted == WANTS_ANY) {
            return true;
        }
        if (wanted == WANTS_TEXT) {
            return held == null || held instanceof Text;
        }
        if (wanted == WANTS_ITEM) {
            return held == null || held instanceof Item;
        }
        if (held instanceof Box box) {
            return widens(box.kind, wanted);
        }
        return false;
    }

    private static long wholeOf(Held held) {
        if (held instanceof Box box) {
            return box.whole;
        }
        return 0L;
    }

    private static double realOf(Held held) {
        if (held instanceof Box box) {
            return box.real;
        }
        return 0.0;
    }

    private static Text textOf(Held held) {
        if (held instanceof Text text) {
            return text;
        }
        return null;
    }

    private static Item itemOf(Held held) {
        if (held instanceof Item item) {
            return item;
        }
        return null;
    }

    private static int sortOf(Held held) {
        return held == null ? 0 : held.sort();
    }

    private int leastHandleOf(Held held) {
        if (held instanceof Item || held instanceof Plain) {
            for (int i = 0; i < HANDLES; i++) {
                if (handles[i] == held) {
                    return i;
                }
            }
        }
        return NO_HANDLE;
    }

    private static boolean hasEmptyConstructor(int type) {
        return type == TYPE_ROOT || type == TYPE_NUMBER || type == TYPE_TEXT
            || type == TYPE_ITEM || type == TYPE_ROUGH;
    }

    private static boolean hasIntConstructor(int type) {
        return type == TYPE_INTEGER || type == TYPE_ITEM || type == TYPE_SPECIAL
            || type == TYPE_ROUGH;
    }

    private static Held newObject(int type, int argument) {
        switch (type) {
            case TYPE_INTEGER:
                return boxOfWhole(INT, argument);
            case TYPE_TEXT:
                return new Text(0);
            case TYPE_ITEM:
                return new Item(argument);
            case TYPE_SPECIAL:
                return new Special(argument);
            default:
                return new Plain();
        }
    }

    private static int itemRefusal(Held held) {
        if (held == null) {
            return NULL;
        }
        return held instanceof Item ? DONE : ARGUMENT;
    }

    private static int ownerRefusal(Held held, int field) {
        if (field == SHARED) {
            return DONE;
        }
        int refusal = itemRefusal(held);
        if (refusal == DONE && field == EXTRA && !(held instanceof Special)) {
            return ARGUMENT;
        }
        return refusal;
    }

    private Held fieldOf(Held owner, int field) {
        if (field == SHARED) {
            return boxOfWhole(LONG, shared);
        }
        if (owner instanceof Item item) {
            return item.read(field);
        }
        return null;
    }

    private void store(Held owner, int field, Held given) {
        if (field == SHARED) {
            shared = wholeOf(given);
        } else if (owner instanceof Item item) {
            item.write(field, given);
        }
    }

    private int invokeOn(Item item, int method, Held first, Held second) {
        switch (method) {
            case SUM:
                return answer(boxOfWhole(LONG, wholeOf(first) + wholeOf(second) + item.whole));
            case TAG:
                return tagOf(first, second);
            case DIV:
                return quotientOf((int) wholeOf(first), (int) wholeOf(second));
            case PICK:
                return pickOf(item, first);
            case SELF:
                item.small = (byte) wholeOf(first);
                return answer(item);
            default:
                return ARGUMENT;
        }
    }

    private int tagOf(Held first, Held second) {
        if (first instanceof Text text) {
            return answer(boxOfWhole(INT, 100 * text.number + sortOf(second)));
        }
        return fail(FAILED_NULL);
    }

    private int quotientOf(int a, int b) {
        if (b == 0) {
            return fail(FAILED_ARITHMETIC);
        }
        return answer(boxOfWhole(INT, a / b));
    }

    private int pickOf(Item item, Held first) {
        if (first instanceof Item other) {
            return answer(boxOfWhole(INT, item.pick(other)));
        }
        return fail(FAILED_NULL);
    }

    private static int typedTakes(int x, int y) {
        if (!isBelow(y, TYPES)) {
            return REFUSED;
        }
        return takes(x, y) ? 1 : 0;
    }

    private static boolean takes(int x, int y) {
        if (x == y) {
            return true;
        }
        switch (x) {
            case TYPE_ROOT:
                return y != TYPE_INT;
            case TYPE_THING:
                return y == TYPE_SPECIAL || y == TYPE_ROUGH;
            case TYPE_ROOT_ARRAY:
                return y == TYPE_ITEM_ARRAY || y == TYPE_SPECIAL_ARRAY;
            case TYPE_ITEM_ARRAY:
                return y == TYPE_SPECIAL_ARRAY;
            default:
                // No class but the root has others more than one step below it.
                return TYPES_ABOVE[y] == x;
        }
    }

    /** What a handle, a field or RESULT can hold. */
    private abstract static class Held {

        abstract int sort();

        abstract int type();

        long told() {
            return 0L;
        }
    }

    /**
     * A boxed value. Nobody can tell one box from another of the same kind and value, and none
     * changes: so a handle and a field may share one.
     */
    private static final class Box extends Held {

        private final int kind;
        private final long whole;
        // Of a whole number too: the value as a DOUBLE.
        private final double real;

        Box(int kind, long whole, double real) {
            this.kind = kind;
            this.whole = whole;
            this.real = real;
        }
        int sort() {
            return kind + 1;
        }
        int type() {
            return BOX_TYPES[kind];
        }
        long told() {
            return toldAs(kind);
        }

        long toldAs(int wanted) {
            if (wanted <= LONG) {
                return whole;
            }
            // From the whole number itself: by way of a DOUBLE it would be rounded twice.
            if (wanted == FLOAT && kind <= LONG) {
                return (long) ((double) (float) whole * 8.0);
            }
            return (long) (real * 8.0);
        }
    }

    private static final class Text extends Held {

        private final int number;

        Text(int number) {
            this.number = number;
        }
        int sort() {
            return 9;
        }
        int type() {
            return TYPE_TEXT;
        }
        long told() {
            return number;
        }
    }

    private static final class Plain extends Held {
        int sort() {
            return 12;
        }
        int type() {
            return TYPE_ROOT;
        }
    }

    private static class Item extends Held {

        private int whole;
        private byte small;
        private double real;
        private Text text;
        private Held any;
        private Item next;

        Item(int whole) {
            this.whole = whole;
        }
        int sort() {
            return 10;
        }
        int type() {
            return TYPE_ITEM;
        }

        int pick(Item other) {
            return whole - other.whole;
        }

        Held read(int field) {
            switch (field) {
                case WHOLE:
                    return boxOfWhole(INT, whole);
                case SMALL:
                    return boxOfWhole(BYTE, small);
                case REAL:
                    return boxOfReal(DOUBLE, real);
                case TEXT:
                    return text;
                case ANY:
                    return any;
                case NEXT:
                    return next;
                case FIXED:
                    return boxOfWhole(INT, 7L);
                default:
                    return null;
            }
        }

        void write(int field, Held given) {
            switch (field) {
                case WHOLE:
                    whole = (int) wholeOf(given);
                    break;
                case SMALL:
                    small = (byte) wholeOf(given);
                    break;
                case REAL:
                    real = realOf(given);
                    break;
                case TEXT:
                    text = textOf(given);
                    break;
                case ANY:
                    any = given;
                    break;
                case NEXT:
                    next = itemOf(given);
                    break;
                default:
                    break;
            }
        }
    }

    private static final class Special extends Item {

        private short extra;

        Special(int argument) {
            super(argument + 1);
            extra = 5;
        }
        int sort() {
            return 11;
        }
        int type() {
            return TYPE_SPECIAL;
        }
        int pick(Item other) {
            return extra + other.whole;
        }
        Held read(int field) {
            return field == EXTRA ? boxOfWhole(SHORT, extra) : super.read(field);
        }
        void write(int field, Held given) {
            if (field == EXTRA) {
                extra = (short) wholeOf(given);
            } else {
                super.write(field, given);
            }
        }
    }
}
