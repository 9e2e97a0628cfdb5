import java.lang.reflect.InvocationTargetException;
import java.lang.reflect.Method;

/** Makes calls that are written as text, such as "put 5 50", and tells the answers as text. */
final class Caller {
    private Caller() {
    }

    /** The answer, or the simple name of the exception that the call throws. */
    static String answer(Object store, String call) {
        String[] words = call.trim().split(" +");
        Method method = methodOf(store, words[0], words.length - 1);
        Object[] arguments = new Object[words.length - 1];
        for (int i = 0; i < arguments.length; i++) {
            arguments[i] = method.getParameterTypes()[i] == boolean.class
                    ? (Object) Boolean.valueOf(words[i + 1])
                    : (Object) Integer.valueOf(words[i + 1]);
        }
        try {
            return String.valueOf(method.invoke(store, arguments));
        } catch (InvocationTargetException e) {
            return e.getCause().getClass().getSimpleName();
        } catch (IllegalAccessException e) {
            throw new AssertionError(e);
        }
    }

    private static Method methodOf(Object store, String name, int parameters) {
        for (Method method : store.getClass().getDeclaredMethods()) {
            if (method.getName().equals(name) && method.getParameterCount() == parameters) {
                return method;
            }
        }
        throw new AssertionError("no method " + name + " with " + parameters + " parameters");
    }
}
