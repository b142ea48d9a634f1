import java.lang.reflect.InvocationTargetException;
import java.lang.reflect.Method;

/** Calls by name, on the class and on whatever has methods of the same names, so that answers can be compared. */
final class Calls {
    private Calls() {
    }

    /** What a call answers, or the name of what it throws. Of a boolean argument 0 is false. */
    static String answer(Object of, String name, int... numbers) {
        Method method = named(of.getClass(), name);
        Object[] arguments = new Object[method.getParameterCount()];
        for (int k = 0; k < arguments.length; k++) {
            boolean isFlag = method.getParameterTypes()[k] == boolean.class;
            arguments[k] = isFlag ? (Object) (numbers[k] != 0) : (Object) numbers[k];
        }
        try {
            return String.valueOf(method.invoke(of, arguments));
        } catch (InvocationTargetException e) {
            return e.getCause().getClass().getSimpleName();
        } catch (IllegalAccessException e) {
            throw new IllegalStateException(e);
        }
    }

    private static Method named(Class<?> of, String name) {
        for (Method method : of.getDeclaredMethods()) {
            if (method.getName().equals(name)) {
                return method;
            }
        }
        throw new IllegalStateException("no method " + name);
    }
}
