import java.lang.reflect.Method;
import java.lang.reflect.Modifier;
import java.util.Arrays;
import java.util.HashMap;
import java.util.Map;

/** A ClauseBook and a PlainBook that are asked the same: they must answer alike, 512 times; no more is asked then. */
final class Twins {
    private static final Map<String, Method> METHODS = new HashMap<>();

    final ClauseBook tried = new ClauseBook();
    final PlainBook plain = new PlainBook();
    private static final int MOST_CALLS = 512;
    private final String run;
    private int asked = 0;

    Twins(String run) {
        this.run = run;
    }

    boolean worn() {
        return asked >= MOST_CALLS;
    }

    void ask(String name, long... numbers) throws Exception {
        if (worn()) return;
        asked++;
        long got = call(tried, name, numbers);
        long want = call(plain, name, numbers);
        if (got == want) Check.due(name, got, want);
        else Check.due(run + ": " + name + Arrays.toString(numbers), got, want);
    }

    static Method method(Object object, String name) {
        return METHODS.computeIfAbsent(object.getClass().getName() + "." + name, key -> {
            for (Method m : object.getClass().getDeclaredMethods()) {
                if (m.getName().equals(name) && Modifier.isPublic(m.getModifiers())) return m;
            }
            throw new IllegalStateException("no such call: " + key);
        });
    }

    private static long call(Object object, String name, long[] numbers) throws Exception {
        Method m = method(object, name);
        Class<?>[] types = m.getParameterTypes();
        Object[] given = new Object[types.length];
        for (int i = 0; i < given.length; i++) given[i] = types[i] == int.class ? (Object) (int) numbers[i] : (Object) numbers[i];
        return ((Number) m.invoke(object, given)).longValue();
    }
}
