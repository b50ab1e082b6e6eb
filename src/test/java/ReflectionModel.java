import java.lang.reflect.Constructor;
import java.lang.reflect.Field;
import java.lang.reflect.InvocationTargetException;
import java.lang.reflect.Method;
import java.lang.reflect.Modifier;

/** The same requests, answered by the reflection of Java itself on classes of the same shape. */
final class ReflectionModel {

    public interface Thing { }

    public abstract static class Rough implements Thing {
        public Rough() { }

        public Rough(int number) { }
    }

    public static final class Text {
        private final int number;

        public Text() {
            this(0);
        }

        private Text(int number) {
            this.number = number;
        }
    }

    public static class Item {
        public static long shared;
        public int whole;
        public byte small;
        public double real;
        public Text text;
        public Object any;
        public Item next;
        public final int fixed;

        public Item() {
            this(0);
        }

        public Item(int whole) {
            this.whole = whole;
            fixed = 7;
        }

        public long sum(int a, long b) {
            return a + b + whole;
        }

        public int tag(Text s, Object o) {
            return 100 * s.number + sortOf(o);
        }

        public static double twice(double x) {
            return x + x;
        }

        public int div(int a, int b) {
            return a / b;
        }

        public int pick(Item o) {
            return whole - o.whole;
        }

        public Item self(short s) {
            small = (byte) s;
            return this;
        }
    }

    public static class Special extends Item implements Thing {
        public short extra = 5;

        public Special(int number) {
            super(number + 1);
        }

        @Override
        public int pick(Item o) {
            return extra + o.whole;
        }
    }

    private static final Class<?>[] TYPES = {
        Object.class, Number.class, Integer.class, Text.class, Thing.class, Item.class, Special.class,
        Rough.class, int.class, int[].class, Object[].class, Item[].class, Special[].class};
    private static final Class<?>[] BOXES = {
        Boolean.class, Byte.class, Character.class, Short.class,
        Integer.class, Long.class, Float.class, Double.class};
    private static final String[] FIELDS = {
        "whole", "small", "real", "text", "any", "next", "fixed", "shared", "extra"};

    private final Object[] handles = new Object[9];
    private long last;

    ReflectionModel() {
        Item.shared = 100;
    }

    private static Method methodOf(int method) throws NoSuchMethodException {
        switch (method) {
            case 0: return Item.class.getMethod("sum", int.class, long.class);
            case 1: return Item.class.getMethod("tag", Text.class, Object.class);
            case 2: return Item.class.getMethod("twice", double.class);
            case 3: return Item.class.getMethod("div", int.class, int.class);
            case 4: return Item.class.getMethod("pick", Item.class);
            default: return Item.class.getMethod("self", short.class);
        }
    }

    private static Field fieldOf(int field) throws NoSuchFieldException {
        return (field == 8 ? Special.class : Item.class).getField(FIELDS[field]);
    }

    static int sortOf(Object object) {
        for (int kind = 0; kind < 8; kind++) {
            if (BOXES[kind].isInstance(object)) {
                return kind + 1;
            }
        }
        if (object == null) {
            return 0;
        }
        if (object instanceof Text) {
            return 9;
        }
        return object instanceof Special ? 11 : object instanceof Item ? 10 : 12;
    }

    private static long toldOf(Object object) {
        if (object instanceof Boolean flag) {
            return flag ? 1 : 0;
        }
        if (object instanceof Character letter) {
            return letter;
        }
        if (object instanceof Float || object instanceof Double) {
            return (long) (((Number) object).doubleValue() * 8.0);
        }
        if (object instanceof Number number) {
            return number.longValue();
        }
        return object instanceof Text text ? text.number : 0;
    }

    private static Object made(int sort, long v) {
        switch (sort) {
            case 0: return (v & 1) == 1;
            case 1: return (byte) v;
            case 2: return (char) v;
            case 3: return (short) v;
            case 4: return (int) v;
            case 5: return v;
            case 6: return (float) v * 0.125f;
            case 7: return (double) v * 0.125;
            default: return new Text((int) ((v % 10 + 10) % 10));
        }
    }

    private static boolean isOut(int number, int least, int most) {
        return number < least || number > most;
    }

    int put(int to, int sort, long v) {
        if (isOut(to, 0, 7) || isOut(sort, 0, 8)) {
            return -1;
        }
        last = 0;
        handles[to] = made(sort, v);
        return 0;
    }

    int hold(int to, int from) {
        if (isOut(to, 0, 7) || isOut(from, -1, 8)) {
            return -1;
        }
        last = 0;
        handles[to] = from < 0 ? null : handles[from];
        return 0;
    }

    int make(int type, boolean with, int argument) throws IllegalAccessException {
        if (isOut(type, 0, 7)) {
            return -1;
        }
        last = 0;
        try {
            Constructor<?> constructor = with
                ? TYPES[type].getConstructor(int.class) : TYPES[type].getConstructor();
            handles[8] = with ? constructor.newInstance(argument) : constructor.newInstance();
            return 0;
        } catch (NoSuchMethodException e) {
            return 5;
        } catch (InstantiationException e) {
            return 6;
        } catch (InvocationTargetException e) {
            return 4;
        }
    }

    int get(int handle, int field) throws ReflectiveOperationException {
        if (isOut(handle, 0, 8) || isOut(field, 0, 8)) {
            return -1;
        }
        last = 0;
        try {
            handles[8] = fieldOf(field).get(handles[handle]);
            return 0;
        } catch (NullPointerException e) {
            return 1;
        } catch (IllegalArgumentException e) {
            return 2;
        }
    }

    int getAs(int handle, int field, int kind) throws ReflectiveOperationException {
        if (isOut(handle, 0, 8) || isOut(field, 0, 8) || isOut(kind, 0, 7)) {
            return -1;
        }
        last = 0;
        try {
            last = toldOf(valueAs(fieldOf(field), handles[handle], kind));
            return 0;
        } catch (NullPointerException e) {
            return 1;
        } catch (IllegalArgumentException e) {
            return 2;
        }
    }

    private static Object valueAs(Field field, Object owner, int kind) throws IllegalAccessException {
        switch (kind) {
            case 0: return field.getBoolean(owner);
            case 1: return field.getByte(owner);
            case 2: return field.getChar(owner);
            case 3: return field.getShort(owner);
            case 4: return field.getInt(owner);
            case 5: return field.getLong(owner);
            case 6: return field.getFloat(owner);
            default: return field.getDouble(owner);
        }
    }

    int set(int handle, int field, int from) throws NoSuchFieldException {
        if (isOut(handle, 0, 8) || isOut(field, 0, 8) || isOut(from, 0, 8)) {
            return -1;
        }
        last = 0;
        try {
            fieldOf(field).set(handles[handle], handles[from]);
            return 0;
        } catch (NullPointerException e) {
            return 1;
        } catch (IllegalArgumentException e) {
            return 2;
        } catch (IllegalAccessException e) {
            return 3;
        }
    }

    int invoke(int handle, int method, int n, int xy) throws ReflectiveOperationException {
        if (isOut(handle, 0, 8) || isOut(method, 0, 5) || isOut(n, 0, 2) || isOut(xy, 0, 80)) {
            return -1;
        }
        last = 0;
        Object[] arguments = new Object[n];
        for (int i = 0; i < n; i++) {
            arguments[i] = handles[i == 0 ? xy / 9 : xy % 9];
        }
        try {
            handles[8] = methodOf(method).invoke(handles[handle], arguments);
            return 0;
        } catch (NullPointerException e) {
            return 1;
        } catch (IllegalArgumentException e) {
            return 2;
        } catch (InvocationTargetException e) {
            last = e.getCause() instanceof ArithmeticException ? 1 : 2;
            return 4;
        }
    }

    int cast(int handle, int type) {
        if (isOut(handle, 0, 8) || isOut(type, 0, 7)) {
            return -1;
        }
        last = 0;
        try {
            handles[8] = TYPES[type].cast(handles[handle]);
            return 0;
        } catch (ClassCastException e) {
            return 7;
        }
    }

    long last() {
        return last;
    }

    int look(int handle, boolean same) {
        if (isOut(handle, 0, 8)) {
            return -1;
        }
        int sort = sortOf(handles[handle]);
        if (!same) {
            return sort;
        }
        for (int i = 0; i < 8 && sort >= 10; i++) {
            if (handles[i] == handles[handle]) {
                return i;
            }
        }
        return -2;
    }

    long value(int handle) {
        return isOut(handle, 0, 8) ? -1 : toldOf(handles[handle]);
    }

    int typed(int x, int y, int what) {
        if (isOut(x, 0, 12) || isOut(what, 0, 3) || (what == 0 && isOut(y, 0, 12))) {
            return -1;
        }
        switch (what) {
            case 0: return TYPES[x].isAssignableFrom(TYPES[y]) ? 1 : 0;
            case 1: return indexOf(TYPES[x].getSuperclass());
            case 2: return indexOf(TYPES[x].getComponentType());
            default: return Modifier.isAbstract(TYPES[x].getModifiers()) ? 1 : 0;
        }
    }

    private static int indexOf(Class<?> type) {
        for (int i = 0; i < TYPES.length; i++) {
            if (TYPES[i] == type) {
                return i;
            }
        }
        return -2;
    }
}
