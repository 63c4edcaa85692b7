import java.lang.reflect.InvocationTargetException;
import java.lang.reflect.Method;
import java.util.HashMap;
import java.util.Map;

/** Calls by name: of the class and of its model alike. */
final class Calls {
    /** What a call answers that has thrown: no answer of the document is like it. */
    static final long THROWN = Long.MIN_VALUE;

    private static final Map<String, Method> METHODS = new HashMap<>();

    private Calls() {
    }

    static long answer(Object chart, String name, int... args) {
        Object[] boxed = new Object[args.length];
        for (int i = 0; i < args.length; i++) {
            boxed[i] = args[i];
        }
        try {
            return ((Number) method(chart.getClass(), name).invoke(chart, boxed)).longValue();
        } catch (InvocationTargetException thrown) {
            System.out.println(text(name, args) + " threw " + thrown.getCause());
            return THROWN;
        } catch (IllegalAccessException | IllegalArgumentException noSuchCall) {
            throw new IllegalStateException("no such call: " + text(name, args), noSuchCall);
        }
    }

    static String text(String name, int... args) {
        StringBuilder text = new StringBuilder(name).append('(');
        for (int i = 0; i < args.length; i++) {
            text.append(i == 0 ? "" : ", ").append(args[i]);
        }
        return text.append(')').toString();
    }

    private static Method method(Class<?> type, String name) {
        return METHODS.computeIfAbsent(type.getName() + " " + name, key -> {
            for (Method method : type.getDeclaredMethods()) {
                if (method.getName().equals(name)) {
                    return method;
                }
            }
            throw new IllegalStateException("no such call: " + name);
        });
    }
}
