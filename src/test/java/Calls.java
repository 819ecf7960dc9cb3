import java.lang.reflect.InvocationTargetException;
import java.lang.reflect.Method;
import java.lang.reflect.Modifier;
import java.util.Arrays;
import java.util.Map;
import java.util.Set;
import java.util.TreeMap;

/** Calls of the public face by their names. */
final class Calls {
    private static final Map<String, Method> FACE = new TreeMap<>();

    static {
        for (Method m : SundayVisits.class.getDeclaredMethods()) {
            if (Modifier.isPublic(m.getModifiers())) {
                FACE.put(m.getName(), m);
            }
        }
    }

    private Calls() {
    }

    static Set<String> names() {
        return FACE.keySet();
    }

    /** What the call answers; what it throws comes as an IllegalStateException, since no call may throw. */
    static long call(SundayVisits x, String name, int... a) {
        Method m = FACE.get(name);
        if (m == null || m.getParameterCount() != a.length) {
            throw new IllegalArgumentException("no such call: " + name + Arrays.toString(a));
        }
        try {
            return ((Number) m.invoke(x, Arrays.stream(a).boxed().toArray())).longValue();
        } catch (InvocationTargetException e) {
            throw new IllegalStateException(name + Arrays.toString(a) + " threw " + e.getCause(), e.getCause());
        } catch (IllegalAccessException e) {
            throw new IllegalArgumentException(e);
        }
    }
}
