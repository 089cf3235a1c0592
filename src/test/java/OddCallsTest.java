import java.lang.reflect.InvocationTargetException;
import java.lang.reflect.Method;
import java.lang.reflect.Modifier;
import java.util.Arrays;
import java.util.Comparator;
import java.util.Random;

/** Rule 7: any call with any arguments in any state ends without a throw, and answers as the model does. */
public final class OddCallsTest {
    private static final int[] INTS = {Integer.MIN_VALUE, Integer.MIN_VALUE + 1, -4096, -256, -1, 15, 16, 31, 32, 63, 64, 65, 79, 80,
        103, 127, 128, 199, 200, 255, 256, 2000, 2001, 3999, 4000, 12287, 12288, 65535, 65536, 1 << 30, Integer.MAX_VALUE - 1, Integer.MAX_VALUE};
    private static final long[] LONGS = {Long.MIN_VALUE, -1, 0, 1, 2, 4096, 1L << 40, (1L << 40) + 1, Long.MAX_VALUE};

    private final Random r;
    private final ChainHouse x;
    private final Model m;

    private OddCallsTest(long seed) {
        r = new Random(seed);
        int nodes = r.nextInt(7);
        x = new ChainHouse(nodes);
        m = new Model(nodes);
    }

    private int oddInt() {
        int kind = r.nextInt(10);
        return kind < 7 ? r.nextInt(8) - 1 : kind < 9 ? INTS[r.nextInt(INTS.length)] : r.nextInt();
    }

    private Object odd(Class<?> type) {
        if (type == boolean.class) return r.nextBoolean();
        if (type == int.class) return oddInt();
        int kind = r.nextInt(6);
        return kind < 3 ? (long) r.nextInt(4) : kind < 5 ? LONGS[r.nextInt(LONGS.length)] : x.unspent(0, 0, 0);
    }

    private void call(Method method) throws ReflectiveOperationException {
        Object[] args = new Object[method.getParameterCount()];
        for (int i = 0; i < args.length; i++) args[i] = odd(method.getParameterTypes()[i]);
        Method same = Model.class.getDeclaredMethod(method.getName(), method.getParameterTypes());
        Lab.due(method.getName() + Arrays.toString(args), ((Number) method.invoke(x, args)).longValue(), ((Number) same.invoke(m, args)).longValue());
    }

    private void mine() {
        int node = r.nextInt(x.house(0)), time = x.due(node, 1) + 1 + r.nextInt(20);
        Lab.due("assemble", x.assemble(node, 0, time), m.assemble(node, 0, time));
        Lab.due("solve", x.solve(0, 300), m.solve(0, 300));
        int to = r.nextInt(x.house(0));
        Lab.due("give", x.give(to, 5), m.give(to, 5));
    }

    public static void main(String[] args) throws ReflectiveOperationException {
        Method[] all = Arrays.stream(ChainHouse.class.getDeclaredMethods()).filter(a -> Modifier.isPublic(a.getModifiers()))
            .sorted(Comparator.comparing(Method::getName)).toArray(Method[]::new);
        long runs = args.length > 0 ? Long.parseLong(args[0]) : 60;
        for (long seed = 1; seed <= runs; seed++) {
            OddCallsTest test = new OddCallsTest(seed);
            try {
                for (int i = 0; i < 512; i++) {
                    if (test.r.nextInt(20) == 0) test.mine();
                    else test.call(all[test.r.nextInt(all.length)]);
                }
            } catch (InvocationTargetException e) {
                Lab.due("seed " + seed + " threw " + e.getCause(), 1, 0);
            }
        }
        Lab.end();
    }
}
