import java.lang.reflect.InvocationTargetException;
import java.lang.reflect.Method;
import java.util.HashMap;
import java.util.Map;

/** Calls methods of an object by their names, with numbers as arguments and an answer as text. */
final class Caller {
    /** By classes, as looking methods up is dear and many objects are called. */
    private static final Map<Class<?>, Map<String, Method>> KNOWN = new HashMap<>();
    private final Object object;
    private final Map<String, Method> methods;

    Caller(Object object) {
        this.object = object;
        this.methods = KNOWN.computeIfAbsent(object.getClass(), Caller::methodsOf);
    }

    private static Map<String, Method> methodsOf(Class<?> type) {
        Map<String, Method> found = new HashMap<>();
        for (Method method : type.getDeclaredMethods()) {
            if (!method.isSynthetic() && takesNumbers(method)) {
                found.put(method.getName() + method.getParameterCount(), method);
            }
        }
        return found;
    }

    private static boolean takesNumbers(Method method) {
        for (Class<?> type : method.getParameterTypes()) {
            if (!type.isPrimitive()) {
                return false;
            }
        }
        return true;
    }

    /** The answer, a boolean as 1 or 0, or the name of the exception's own class. */
    String call(String name, int... numbers) {
        Method method = methods.get(name + numbers.length);
        Object[] arguments = new Object[numbers.length];
        for (int i = 0; i < numbers.length; i++) {
            boolean isBoolean = method.getParameterTypes()[i] == boolean.class;
            arguments[i] = isBoolean ? (Object) (numbers[i] != 0) : (Object) numbers[i];
        }
        try {
            Object answer = method.invoke(object, arguments);
            return answer instanceof Boolean ? ((Boolean) answer ? "1" : "0") : answer.toString();
        } catch (InvocationTargetException thrown) {
            return thrown.getCause().getClass().getSimpleName();
        } catch (IllegalAccessException e) {
            throw new IllegalStateException(e);
        }
    }
}
