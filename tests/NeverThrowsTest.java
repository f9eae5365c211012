import java.lang.reflect.InvocationTargetException;
import java.lang.reflect.Method;
import java.util.Arrays;
import java.util.Comparator;
import java.util.Random;

/** Any arguments in any state: nothing is thrown, but by element just what it is allowed to throw. */
public final class NeverThrowsTest {
    private static final int[] FAR = {Integer.MIN_VALUE, Integer.MIN_VALUE + 1, -32769, -129, -15, -2, -1, 0, 1, 2, 6, 7, 8, 9,
        10, 99, 100, 101, 127, 128, 255, 256, 999, 1000, 65536, Integer.MAX_VALUE - 1, Integer.MAX_VALUE};

    private NeverThrowsTest() {
    }

    public static void main(String[] args) throws IllegalAccessException {
        Method[] calls = DealtByOpposite.class.getDeclaredMethods();
        calls = Arrays.stream(calls).filter(m -> java.lang.reflect.Modifier.isPublic(m.getModifiers()))
            .sorted(Comparator.comparing(Method::getName)).toArray(Method[]::new);
        for (int seed = 0; seed < 3000; seed++) {
            run(calls, new Random(seed));
        }
        Check.end("NeverThrowsTest");
    }

    private static void run(Method[] calls, Random random) throws IllegalAccessException {
        DealtByOpposite x = random.nextBoolean() ? new DealtByOpposite()
            : Towns.of("p04;p13;p26;p30;p45;p58;p67;f012;f105;l1;".substring(0, 4 * (1 + random.nextInt(7))));
        for (int call = 0; call < 150; call++) {
            Method method = calls[random.nextInt(calls.length)];
            Object[] arguments = new Object[method.getParameterCount()];
            for (int i = 0; i < arguments.length; i++) {
                arguments[i] = random.nextInt(3) == 0 ? FAR[random.nextInt(FAR.length)] : random.nextInt(9);
            }
            String told = method.getName() + Arrays.toString(arguments);
            try {
                Object answer = method.invoke(x, arguments);
                Check.holds(told + " answers a number", answer instanceof Number);
            } catch (InvocationTargetException e) {
                Check.holds(told + " threw " + e.getCause(), isAllowed(method, e.getCause()));
            }
        }
    }

    private static boolean isAllowed(Method method, Throwable thrown) {
        return method.getName().equals("element")
            && (thrown.getClass() == IllegalArgumentException.class || thrown.getClass() == IllegalStateException.class);
    }
}
