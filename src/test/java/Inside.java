import java.lang.reflect.Field;

/** Reaches into an object's private fields, for what no run of calls can bring about. */
final class Inside {
    private Inside() {
    }

    static void setSecondRegister(GrayPointers x, int side, int code) throws ReflectiveOperationException {
        setOfSide(x, side, "second", code);
    }

    static void setPeriod(GrayPointers x, int side, int period) throws ReflectiveOperationException {
        setOfSide(x, side, "period", period);
    }

    private static void setOfSide(GrayPointers x, int side, String name, int value) throws ReflectiveOperationException {
        Object own = read(read(x, "state"), side == 0 ? "writer" : "reader");
        open(own, name).setInt(own, value);
    }

    private static Object read(Object owner, String name) throws ReflectiveOperationException {
        return open(owner, name).get(owner);
    }

    private static Field open(Object owner, String name) throws ReflectiveOperationException {
        Field field = owner.getClass().getDeclaredField(name);
        field.setAccessible(true);
        return field;
    }
}
