import java.lang.reflect.Array;
import java.lang.reflect.Field;
import java.lang.reflect.Modifier;

/** What the tests share: comparing answers, expecting exceptions, and short ways to fill a map. */
final class Check {
    interface Call {
        Object answer();
    }

    static final Class<IllegalArgumentException> ARGUMENT = IllegalArgumentException.class;
    static final Class<IndexOutOfBoundsException> INDEX = IndexOutOfBoundsException.class;
    static final Class<IllegalStateException> STATE = IllegalStateException.class;
    static final Class<UnsupportedOperationException> UNSUPPORTED = UnsupportedOperationException.class;
    static final Class<java.util.NoSuchElementException> NO_ELEMENT = java.util.NoSuchElementException.class;

    private static int wrong = 0;
    /** Stands before what is printed, so that it tells which sentence of the document is broken. */
    private static String topic = "";

    private Check() {
    }

    static void speakOf(String newTopic) {
        topic = newTopic;
    }

    static void is(String call, Object got, Object want) {
        if (!got.equals(want)) {
            wrong++;
            System.out.println(topic + call + " answered " + got + ", due is " + want);
        }
    }

    /** The call must throw just that exception, and change nothing of the object. */
    static void fails(String call, Class<?> want, CindermapStore store, Call made) {
        String before = picture(store);
        try {
            is(call, made.answer(), "throws " + want.getSimpleName());
        } catch (RuntimeException thrown) {
            if (thrown.getClass() != want) {
                is(call, "throws " + thrown, "throws " + want.getSimpleName());
            }
        }
        is(call + ": whether the object's state is as before", picture(store).equals(before), true);
    }

    static void end() {
        if (wrong != 0) {
            System.exit(1);
        }
    }

    /** Opens a branch, paints one place and merges it; answers what the merge answers. */
    static int bring(CindermapStore store, int layer, int x, int y, int area) {
        int branch = store.open();
        store.paint(branch, layer, x, y, area);
        return store.merge(branch);
    }

    /** Paints a layer in a branch: a row of digits for each y from 0, '.' for what stays. */
    static void draw(CindermapStore store, int branch, int layer, String... rows) {
        for (int y = 0; y < rows.length; y++) {
            for (int x = 0; x < rows[y].length(); x++) {
                if (rows[y].charAt(x) != '.') {
                    store.paint(branch, layer, x, y, rows[y].charAt(x) - '0');
                }
            }
        }
    }

    /** A new object whose first layers look so by version 1. */
    static CindermapStore drawn(String... rows) {
        CindermapStore store = new CindermapStore();
        int branch = store.open();
        draw(store, branch, 0, rows);
        store.merge(branch);
        return store;
    }

    /** An object whose branch 0 tells 7 at the spot 0, where the map has gone from 0 to 5. */
    static CindermapStore inConflict() {
        CindermapStore store = new CindermapStore();
        store.open();
        store.paint(0, 0, 0, 0, 7);
        bring(store, 0, 0, 0, 5);
        return store;
    }

    /** An object with one long way through all places by version 1: to the right, then to the left, and so on. */
    static CindermapStore snake() {
        CindermapStore store = new CindermapStore();
        store.open();
        for (int y = 0; y < 8; y++) {
            for (int x = 0; x < 7; x++) {
                store.road(0, x, y, false, true);
            }
            if (y < 7) {
                store.road(0, y % 2 == 0 ? 7 : 0, y, true, true);
            }
        }
        store.merge(0);
        return store;
    }

    /** The row that holds the map inside the object, for tests that spoil it. */
    static int[] mapOf(CindermapStore store) {
        return (int[]) get(store, "map");
    }

    /** Sets a spot of the map and of its newest version alike, past all rules. */
    static void set(CindermapStore store, int spot, int value) {
        mapOf(store)[spot] = value;
        Object step = ((Object[]) get(get(store, "history"), "steps"))[store.version()];
        ((int[]) get(step, "values"))[spot] = value;
    }

    /** The private state as a text, without the rows that each call fills anew. */
    static String picture(Object whole) {
        StringBuilder text = new StringBuilder();
        describe(whole, text);
        return text.toString();
    }

    private static void describe(Object part, StringBuilder text) {
        if (part == null || part instanceof Number || part instanceof Boolean || part instanceof Character) {
            text.append(part).append(' ');
        } else if (part.getClass().isArray()) {
            for (int index = 0; index < Array.getLength(part); index++) {
                describe(Array.get(part, index), text);
            }
        } else {
            for (Field field : part.getClass().getDeclaredFields()) {
                String name = field.getName();
                boolean isScratch = name.equals("trial") || name.equals("search") || name.equals("pairs");
                if (!Modifier.isStatic(field.getModifiers()) && !isScratch) {
                    text.append(name).append(": ");
                    describe(get(part, name), text);
                }
            }
        }
    }

    /** A private field, for tests that look inside or spoil an object. */
    static Object get(Object part, String name) {
        try {
            Field field = part.getClass().getDeclaredField(name);
            field.setAccessible(true);
            return field.get(part);
        } catch (ReflectiveOperationException e) {
            throw new IllegalStateException("no field " + name + " in " + part.getClass(), e);
        }
    }
}
