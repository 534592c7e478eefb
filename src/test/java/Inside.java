import java.lang.reflect.Array;
import java.lang.reflect.Field;

/** Reaches into an object to break its state, which no call can do. */
final class Inside {
    private Inside() { }

    /** Adds to the number at a path of fields and places of arrays, as in "now.cards.0.cents". */
    static void add(MetroFares x, String path, int number) {
        Object holder = holderOf(x, path);
        String last = lastOf(path);
        if (holder.getClass().isArray()) {
            int place = Integer.parseInt(last);
            Array.setInt(holder, place, Array.getInt(holder, place) + number);
        } else {
            write(holder, last, (int) read(holder, last) + number);
        }
    }

    static void set(MetroFares x, String path, boolean value) {
        write(holderOf(x, path), lastOf(path), value);
    }

    private static String lastOf(String path) {
        return path.substring(path.lastIndexOf('.') + 1);
    }

    private static Object holderOf(MetroFares x, String path) {
        Object holder = x;
        String[] steps = path.split("\\.");
        for (int i = 0; i < steps.length - 1; i++) {
            holder = holder.getClass().isArray() ? Array.get(holder, Integer.parseInt(steps[i])) : read(holder, steps[i]);
        }
        return holder;
    }

    private static Object read(Object holder, String name) {
        try {
            return field(holder, name).get(holder);
        } catch (ReflectiveOperationException e) {
            throw new IllegalStateException(e);
        }
    }

    private static void write(Object holder, String name, Object value) {
        try {
            field(holder, name).set(holder, value);
        } catch (ReflectiveOperationException e) {
            throw new IllegalStateException(e);
        }
    }

    private static Field field(Object holder, String name) throws ReflectiveOperationException {
        Field field = holder.getClass().getDeclaredField(name);
        field.setAccessible(true);
        return field;
    }
}
