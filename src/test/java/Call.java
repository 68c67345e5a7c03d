import java.lang.reflect.InvocationTargetException;
import java.lang.reflect.Method;
import java.util.Arrays;

/** A call of the face by its name, so that tables of calls can be written. */
record Call(String name, int... arguments) {
    /** What the call answers on a store, or the exact class that it throws. */
    String on(FunnelFold x) {
        try {
            return String.valueOf(method().invoke(x, boxed()));
        } catch (InvocationTargetException e) {
            return "throws." + e.getCause().getClass().getSimpleName();
        } catch (ReflectiveOperationException e) {
            return "no such call: " + this;
        }
    }

    private Method method() throws NoSuchMethodException {
        Class<?>[] types = new Class<?>[arguments.length];
        Arrays.fill(types, int.class);
        return FunnelFold.class.getMethod(name, types);
    }

    private Object[] boxed() {
        return Arrays.stream(arguments).boxed().toArray();
    }

    @Override
    public String toString() {
        String text = Arrays.toString(arguments);
        return name + "(" + text.substring(1, text.length() - 1) + ")";
    }
}
