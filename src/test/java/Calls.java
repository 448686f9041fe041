import java.lang.reflect.InvocationTargetException;
import java.lang.reflect.Method;
import java.util.HashMap;
import java.util.Map;

/** Calls methods of the face by their names, on a CoalStairs or on a Model, and writes what they answer. */
final class Calls {
    private static final Map<Class<?>, Map<String, Method>> METHODS = new HashMap<>();

    private Calls() {
    }

    /** The answer as a text, or the name of the exception that the call throws. */
    static String answer(Object target, String name, int... numbers) {
        Method method = methodsOf(target.getClass()).get(name);
        if (method == null || method.getParameterCount() != numbers.length) {
            throw new IllegalStateException("no such call: " + name + " with " + numbers.length + " numbers");
        }
        Object[] parameters = new Object[numbers.length];
        for (int i = 0; i < numbers.length; i++) {
            parameters[i] = method.getParameterTypes()[i] == char.class ? (Object) (char) numbers[i] : numbers[i];
        }
        try {
            return String.valueOf(method.invoke(target, parameters));
        } catch (InvocationTargetException e) {
            return e.getCause().getClass().getSimpleName();
        } catch (IllegalAccessException e) {
            throw new IllegalStateException(e);
        }
    }

    private static Map<String, Method> methodsOf(Class<?> type) {
        return METHODS.computeIfAbsent(type, key -> {
            Map<String, Method> methods = new HashMap<>();
            for (Method method : key.getMethods()) {
                if (method.getDeclaringClass() == key) {
                    methods.put(method.getName(), method);
                }
            }
            return methods;
        });
    }
}
