import java.lang.reflect.InvocationTargetException;
import java.lang.reflect.Method;
import java.util.HashMap;
import java.util.Map;

/** The calls of the document's face, made by name on the program or on the reference. */
final class Calls {
    private final Object target;
    private final Map<String, Method> methods = new HashMap<>();

    Calls(Object target) {
        this.target = target;
        for (Method method : target.getClass().getDeclaredMethods()) {
            methods.put(method.getName(), method);
        }
    }

    static String text(String name, int... numbers) {
        StringBuilder text = new StringBuilder(name).append('(');
        for (int k = 0; k < numbers.length; k++) {
            text.append(k == 0 ? "" : ", ").append(numbers[k]);
        }
        return text.append(')').toString();
    }

    /** A boolean is told as a number, 0 for false. What the call throws comes out as an IllegalStateException. */
    long call(String name, int... numbers) {
        Method method = methods.get(name);
        Class<?>[] kinds = method.getParameterTypes();
        Object[] given = new Object[numbers.length];
        for (int k = 0; k < numbers.length; k++) {
            given[k] = kinds[k] == boolean.class ? (Object) (numbers[k] != 0) : (Object) numbers[k];
        }
        try {
            return ((Number) method.invoke(target, given)).longValue();
        } catch (InvocationTargetException e) {
            throw new IllegalStateException(text(name, numbers) + " threw " + e.getCause(), e);
        } catch (IllegalAccessException e) {
            throw new IllegalStateException(e);
        }
    }
}
