import java.lang.reflect.Method;
import java.lang.reflect.Modifier;

/** Every call with all kinds of numbers at and behind its edges, in several states: nothing is thrown, all is as in PlainBook. */
public final class EdgesTest {
    private static final long[] INTS = {Integer.MIN_VALUE, -100, -2, -1, 0, 1, 2, 3, 6, 7, 12, 24, 31, 64, Integer.MAX_VALUE};
    private static final long[] FEWER = {Integer.MIN_VALUE, -1, 0, 1, 3, 6, 7, Integer.MAX_VALUE};
    private static final long[] LONGS = {Long.MIN_VALUE, -Long.MAX_VALUE, Integer.MIN_VALUE - 1L, -1, 0, 1, 6, 1L << 32, Long.MAX_VALUE};

    public static void main(String[] args) throws Exception {
        for (int state = 0; state < 4; state++) {
            for (Method m : ClauseBook.class.getDeclaredMethods()) {
                if (Modifier.isPublic(m.getModifiers())) all(m, state);
            }
        }
        Check.end();
    }

    private static Twins inState(int state, String name) throws Exception {
        Twins twins = new Twins(name + ", state " + state);
        if (state == 0) return twins;
        twins.ask("start", 5, 3, 2);
        twins.ask("clause", 1, 0, 0, 0);
        twins.ask("clause", state == 2 ? 4 : 3, state == 2 ? 0 : 9, 0, 0);
        int[] kinds = state == 1 ? new int[] {8, 6, 11, 7, 10} : new int[] {4, 4, 11, 5, 5, 5, 5, 5, 5, 5, 5, 5, 5, 5, 3, 3, 3, 3, 3, 3, 3, 3};
        for (int i = 0; i < kinds.length; i++) {
            boolean two = kinds[i] >= 5 && kinds[i] <= 7;
            twins.ask("clause", kinds[i], kinds[i] == 8 ? 3 : kinds[i] == 3 ? 9 : 0, i + 1, two ? i + (state == 1 ? 0 : 1) : 0);
        }
        for (int s = 0; s < 3; s++) {
            twins.ask("sheet", s, (s + state) % 4, 7);
            twins.ask("put", s, s);
            twins.ask("hold", s, s, 1, 2);
            twins.ask("feed", 4, 'o' << 24 | 'n' << 16 | 'e' << 8 | ' ');
        }
        if (state == 3) twins.ask("image");
        return twins;
    }

    private static void all(Method m, int state) throws Exception {
        Class<?>[] types = m.getParameterTypes();
        Twins twins = inState(state, m.getName());
        int total = 1;
        for (Class<?> type : types) total *= choice(types, type).length;
        long[] numbers = new long[types.length];
        for (int i = 0; i < total; i++) {
            int rest = i;
            for (int j = 0; j < types.length; j++) {
                long[] from = choice(types, types[j]);
                numbers[j] = from[rest % from.length];
                rest /= from.length;
            }
            twins.ask(m.getName(), numbers);
            if (twins.worn()) twins = inState(state, m.getName());
        }
    }

    private static long[] choice(Class<?>[] types, Class<?> type) {
        if (type == long.class) return LONGS;
        return types.length > 3 ? FEWER : INTS;
    }
}
