import java.lang.reflect.Array;
import java.lang.reflect.Field;

/** Changes a lap behind the back of its game, for what no call can bring about. */
final class Tamper {
    private Tamper() {
    }

    static void set(Ghostracer game, int lap, String name, Object value) {
        try {
            Object laps = read(read(game, "book"), "laps");
            Object changed = Array.get(laps, lap);
            field(changed, name).set(changed, value);
        } catch (ReflectiveOperationException e) {
            throw new IllegalStateException("the class has no such rows any more", e);
        }
    }

    private static Object read(Object holder, String name) throws ReflectiveOperationException {
        return field(holder, name).get(holder);
    }

    private static Field field(Object holder, String name) throws ReflectiveOperationException {
        Field field = holder.getClass().getDeclaredField(name);
        field.setAccessible(true);
        return field;
    }
}
