import java.lang.reflect.InvocationTargetException;
import java.lang.reflect.Method;
import java.util.Arrays;
import java.util.HashMap;
import java.util.Map;

/** The calls of the public face by their names, on any class that has them. */
final class Calls {
    static final String[] NAMES = {"man", "saying", "mend", "of", "feed", "law", "reach", "plan", "tone",
        "behind", "say", "can", "rows", "thresh", "tune", "nearest", "likely", "slips", "apart", "closest", "begins",
        "meet", "first", "silent", "byTurns", "drawn", "strike", "sow", "led", "image", "back", "undo", "redo", "body",
        "act", "trace", "keep", "row", "put", "element", "shift", "taken", "count"};

    private final Map<String, Method> methods = new HashMap<>();

    Calls(Class<?> owner) {
        for (Method method : owner.getDeclaredMethods()) {
            if (Arrays.asList(NAMES).contains(method.getName())) {
                method.setAccessible(true);
                methods.put(method.getName(), method);
            }
        }
    }

    int arguments(String name) {
        return methods.get(name).getParameterCount();
    }

    long make(Object on, String name, Object... with) {
        try {
            return ((Number) methods.get(name).invoke(on, with)).longValue();
        } catch (InvocationTargetException e) {
            throw new IllegalStateException(name + Arrays.toString(with) + " threw", e.getCause());
        } catch (IllegalAccessException e) {
            throw new IllegalStateException(name, e);
        }
    }
}
