import java.lang.reflect.InvocationTargetException;
import java.lang.reflect.Method;
import java.util.HashMap;
import java.util.Map;

/** Calls of the program by their names, so that a report can tell them. */
final class Calls {
    private static final Map<String, Method> METHODS = methods();

    private Calls() {
    }

    private static Map<String, Method> methods() {
        Map<String, Method> methods = new HashMap<>();
        for (Method method : FeatherShares.class.getDeclaredMethods()) {
            methods.put(method.getName(), method);
        }
        return methods;
    }

    static int parameters(String call) {
        return METHODS.get(call).getParameterCount();
    }

    /** What the call answers: "done" if that is nothing, and the exception's name behind "throws." if it is refused. */
    static Object answer(FeatherShares x, String call, int... arguments) {
        Method method = METHODS.get(call);
        Object[] boxed = new Object[arguments.length];
        for (int i = 0; i < arguments.length; i++) {
            boxed[i] = boxed(method.getParameterTypes()[i], arguments[i]);
        }
        try {
            Object answer = method.invoke(x, boxed);
            return method.getReturnType() == void.class ? "done" : answer;
        } catch (InvocationTargetException e) {
            return "throws." + e.getCause().getClass().getSimpleName();
        } catch (IllegalAccessException e) {
            return "no access";
        }
    }

    private static Object boxed(Class<?> type, int argument) {
        if (type == char.class) {
            return (char) argument;
        }
        return argument;
    }
}
