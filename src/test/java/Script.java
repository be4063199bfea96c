import java.lang.reflect.InvocationTargetException;
import java.lang.reflect.Method;
import java.util.HashMap;
import java.util.Map;

/**
 * Runs of calls written as rows, each run under the sentence of ../shared/DOC.md that it tests.
 *
 * A row is "pad TEXT" (the PAD holds this text alone), or calls parted by "; ": "call(..) = due", or a call alone, which
 * prepares and must not be refused. Numbers may be the names of constants, LOW and HIGH; "GONE and OUTSIDE" is their sum.
 */
final class Script {
    private static final Map<String, Long> NAMES = Map.of(
        "UNKNOWN", -1L, "OUTSIDE", -2L, "STATE", -3L, "FULL", -4L, "NO", -5L, "NONE", -6L, "GONE", -1000000000000000000L,
        "LOW", (long) Integer.MIN_VALUE, "HIGH", (long) Integer.MAX_VALUE);
    private static final Map<String, Method> CALLS = calls();

    private final Check check;
    private String sentence;
    private TrustedPause x;
    private int made;

    Script(Check check) {
        this.check = check;
    }

    private static Map<String, Method> calls() {
        Map<String, Method> calls = new HashMap<>();
        for (Method m : TrustedPause.class.getDeclaredMethods()) calls.put(m.getName(), m);
        return calls;
    }

    /** All rows are called on one new object. */
    void holds(String sentence, String... rows) {
        this.sentence = sentence;
        x = new TrustedPause();
        made = 0;
        for (String row : rows) {
            if (row.startsWith("pad ")) write(row.substring(4));
            else for (String call : row.split("; ")) runCall(call);
        }
        check.holds(sentence + ": no more calls than are promised", made <= 512);
    }

    private void write(String text) {
        made += text.length() + 2;
        check.write(x, text);
    }

    private void runCall(String call) {
        int is = call.indexOf(" = ");
        String made = is < 0 ? call : call.substring(0, is);
        long got = answer(made);
        String told = sentence + " " + made;
        if (is >= 0) check.same(told, got, numberOf(call.substring(is + 3)));
        else check.holds(told + " prepares, and answered " + got, got >= 0 || got == -6);
    }

    private long answer(String call) {
        made++;
        Method method = CALLS.get(call.substring(0, call.indexOf('(')));
        Object[] with = argumentsOf(method, call.substring(call.indexOf('(') + 1, call.length() - 1));
        try {
            return ((Number) method.invoke(x, with)).longValue();
        } catch (InvocationTargetException | IllegalAccessException e) {
            check.holds(call + " threw " + e.getCause(), false);
            return 0;
        }
    }

    private static Object[] argumentsOf(Method method, String list) {
        Object[] with = new Object[method.getParameterCount()];
        String[] words = list.split(", ");
        for (int i = 0; i < with.length; i++) {
            boolean isTruth = method.getParameterTypes()[i] == boolean.class;
            with[i] = isTruth ? (Object) Boolean.valueOf(words[i]) : (Object) (int) numberOf(words[i]);
        }
        return with;
    }

    private static long numberOf(String words) {
        long sum = 0;
        for (String word : words.split(" and ")) sum += NAMES.containsKey(word) ? NAMES.get(word) : Long.parseLong(word);
        return sum;
    }
}
