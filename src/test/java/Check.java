import java.lang.reflect.Array;
import java.lang.reflect.Field;
import java.lang.reflect.Modifier;
import java.util.ArrayList;
import java.util.Arrays;
import java.util.HashMap;
import java.util.List;
import java.util.Map;
import java.util.NoSuchElementException;

/** Counts the answers of one test program, prints those that are not due, and ends it. */
final class Check {
    static final Class<IndexOutOfBoundsException> NO_SUCH = IndexOutOfBoundsException.class;
    static final Class<IllegalArgumentException> RANGE = IllegalArgumentException.class;
    static final Class<IllegalStateException> FULL = IllegalStateException.class;
    static final Class<UnsupportedOperationException> NOT_SO = UnsupportedOperationException.class;
    static final Class<NoSuchElementException> NONE = NoSuchElementException.class;
    static final Class<ArithmeticException> NONE_TO_DIVIDE_BY = ArithmeticException.class;
    private static final Map<Class<?>, List<Field>> FIELDS = new HashMap<>();

    private final String title;
    private int asked;
    private int wrong;

    Check(String title) {
        this.title = title;
    }

    void is(String what, long got, long due) {
        report(what, got == due, String.valueOf(got), String.valueOf(due));
    }

    void is(String what, boolean got, boolean due) {
        report(what, got == due, String.valueOf(got), String.valueOf(due));
    }

    void is(String what, double got, double due) {
        report(what, got == due, String.valueOf(got), String.valueOf(due));
    }

    void is(String what, String got, String due) {
        report(what, got.equals(due), got, due);
    }

    /** The call throws just this class, no subclass of it, and leaves every field of the object as it was. */
    void fails(String what, Object x, Class<? extends RuntimeException> due, Runnable call) {
        String before = dump(x);
        String got = "nothing";
        try {
            call.run();
        } catch (RuntimeException e) {
            got = e.getClass().getName();
        }
        report(what + " throws", got.equals(due.getName()), got, due.getName());
        String after = dump(x);
        report(what + " changes nothing", after.equals(before), after, before);
    }

    void end() {
        System.out.println(title + ": " + asked + " answers, " + wrong + " of them wrong");
        if (wrong != 0) {
            System.exit(1);
        }
    }

    private void report(String what, boolean right, String got, String due) {
        asked++;
        if (!right) {
            wrong++;
            System.out.println(title + ": " + what + ": got " + got + ", due is " + due);
        }
    }

    /** All that an object holds, its own classes' objects and arrays included, as a text. */
    static String dump(Object x) {
        StringBuilder text = new StringBuilder();
        dump(x, text);
        return text.toString();
    }

    private static void dump(Object x, StringBuilder text) {
        if (x instanceof Character) {
            text.append((int) (Character) x).append(' ');
        } else if (x == null || x instanceof Number || x instanceof Boolean || x instanceof String) {
            text.append(x).append(' ');
        } else if (x instanceof int[]) {
            text.append(Arrays.toString((int[]) x));
        } else if (x.getClass().isArray()) {
            text.append('[');
            for (int i = 0; i < Array.getLength(x); i++) {
                dump(Array.get(x, i), text);
            }
            text.append(']');
        } else {
            text.append('{');
            for (Field field : fieldsOf(x.getClass())) {
                text.append(field.getName()).append('=');
                dump(get(field, x), text);
            }
            text.append('}');
        }
    }

    /** Kept, since each refused call is looked at twice and asking a class for its fields copies them. */
    private static List<Field> fieldsOf(Class<?> type) {
        return FIELDS.computeIfAbsent(type, unknown -> {
            List<Field> fields = new ArrayList<>();
            for (Field field : unknown.getDeclaredFields()) {
                if (!Modifier.isStatic(field.getModifiers())) {
                    fields.add(field);
                }
            }
            return fields;
        });
    }

    static Object get(Field field, Object x) {
        try {
            field.setAccessible(true);
            return field.get(x);
        } catch (IllegalAccessException e) {
            throw new IllegalStateException(e);
        }
    }
}
