import java.lang.reflect.InvocationTargetException;
import java.lang.reflect.Method;
import java.util.Arrays;

/** A call by its name, so that a test can tell it, and do it again on another yard. */
record Call(String name, int... arguments) {

    static final String THROWS = "throws.";

    /** The answer (null from a void method), or throws. and the exception's own name. */
    Object answerOf(Object yard) {
        Class<?>[] types = new Class<?>[arguments.length];
        Arrays.fill(types, int.class);
        Object[] boxed = Arrays.stream(arguments).boxed().toArray();
        try {
            Method method = yard.getClass().getMethod(name, types);
            return method.invoke(yard, boxed);
        } catch (InvocationTargetException e) {
            return THROWS + e.getCause().getClass().getSimpleName();
        } catch (ReflectiveOperationException e) {
            throw new AssertionError(told() + " can't be called", e);
        }
    }

    static boolean threw(Object answer) {
        return String.valueOf(answer).startsWith(THROWS);
    }

    String told() {
        String row = Arrays.toString(arguments);
        return name + "(" + row.substring(1, row.length() - 1) + ")";
    }
}
