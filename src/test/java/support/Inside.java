import java.lang.reflect.Constructor;
import java.lang.reflect.Field;
import java.lang.reflect.Method;

/**
 * Puts MESSAGES on lines past the face. The document also tells what some MESSAGES do that hosts which keep to it never
 * send: only so can these sentences be tried.
 */
final class Inside {
    private static final int HOSTS = 5;
    private static final int PART = 3;

    private Inside() {
    }

    /** A MESSAGE of any sort but PART, behind all others. */
    static void put(House x, int from, int to, int... numbers) {
        try {
            add(lineOf(x, from, to), numbers);
        } catch (ReflectiveOperationException e) {
            throw new IllegalStateException(e);
        }
    }

    /** PARTs of a move with these bytes, each with its right SUM, behind all others. */
    static void putParts(House x, int from, int to, int t, int move, byte[] bytes) {
        try {
            Object line = lineOf(x, from, to);
            Method addBytes = opened(line, "addBytes", byte[].class, int.class, int.class);
            for (int k = 0; 48 * k < bytes.length; k++) {
                int length = Math.min(48, bytes.length - 48 * k);
                add(line, PART, t, move, k, length);
                addBytes.invoke(line, bytes, 48 * k, length);
            }
        } catch (ReflectiveOperationException e) {
            throw new IllegalStateException(e);
        }
    }

    private static void add(Object line, int... numbers) throws ReflectiveOperationException {
        opened(line, "add", int[].class, int.class).invoke(line, numbers, numbers.length);
    }

    /** Lines are made when they are used first. */
    private static Object lineOf(House x, int from, int to) throws ReflectiveOperationException {
        Object[] lines = (Object[]) fieldOf(fieldOf(x.inner(), "engine"), "lines");
        int i = from * HOSTS + to;
        if (lines[i] == null) {
            Constructor<?> made = lines.getClass().getComponentType().getDeclaredConstructor();
            made.setAccessible(true);
            lines[i] = made.newInstance();
        }
        return lines[i];
    }

    private static Object fieldOf(Object owner, String name) throws ReflectiveOperationException {
        Field field = owner.getClass().getDeclaredField(name);
        field.setAccessible(true);
        return field.get(owner);
    }

    private static Method opened(Object owner, String name, Class<?>... types) throws ReflectiveOperationException {
        Method method = owner.getClass().getDeclaredMethod(name, types);
        method.setAccessible(true);
        return method;
    }
}
