import java.lang.reflect.InvocationTargetException;
import java.lang.reflect.Method;
import java.lang.reflect.Modifier;
import java.util.Arrays;
import java.util.Comparator;

/** Any numbers at any call, in any order: nothing is thrown, and a twin with the same calls answers the same. */
final class AnyCallsTest {
    private static final Check CHECK = new Check("AnyCallsTest");
    private static final int[] EDGES = {
        Integer.MIN_VALUE, -7, -6, -2, -1, 0, 1, 2, 3, 5, 6, 7, 8, 9, 10, 11, 15, 16, 17, 18, 20, 21, 22, 30, 31, 33, 34, 43, 60, 61,
        62, 65, 66, 72, 73, 97, 99, 100, 106, 107, 126, 127, 128, 172, 173, 336, 1023, 1024, 9999, 10000, Integer.MAX_VALUE};
    private static final int[] NEAR = {0, 0, 1, 1, 2, 3, 4, 5, 6, 7};
    private static final int[] SIGNS = {65, 66, 67, 72, 33, 34, 34, 61, 62, 43, 97, 100, 106};
    private static long draws = 7;

    public static void main(String[] args) {
        Method[] calls = Arrays.stream(TrustedPause.class.getDeclaredMethods())
            .filter(m -> Modifier.isPublic(m.getModifiers()))
            .sorted(Comparator.comparing(Method::getName)).toArray(Method[]::new);
        CHECK.same("calls of the face", calls.length, 27);
        for (int run = 0; run < 400; run++) {
            TrustedPause x = new TrustedPause();
            TrustedPause twin = new TrustedPause();
            for (int i = 0; i < 512; i++) {
                Method call = calls[draw(calls.length)];
                Object[] with = argumentsOf(call);
                CHECK.same(call.getName() + Arrays.toString(with), answer(x, call, with), answer(twin, call, with));
            }
        }
        CHECK.end();
    }

    private static int draw(int below) {
        draws = draws * 6364136223846793005L + 1442695040888963407L;
        return (int) ((draws >>> 33) % below);
    }

    private static Object[] argumentsOf(Method call) {
        boolean near = draw(4) > 0;
        int[] from = !near ? EDGES : call.getName().equals("say") ? SIGNS : NEAR;
        Object[] with = new Object[call.getParameterCount()];
        for (int i = 0; i < with.length; i++) {
            if (call.getParameterTypes()[i] == boolean.class) with[i] = draw(2) == 0;
            else with[i] = from[draw(from.length)];
        }
        return with;
    }

    private static long answer(TrustedPause x, Method call, Object[] with) {
        try {
            return ((Number) call.invoke(x, with)).longValue();
        } catch (InvocationTargetException | IllegalAccessException e) {
            CHECK.holds(call.getName() + Arrays.toString(with) + " threw " + e.getCause(), false);
            return 0;
        }
    }
}
