import java.lang.reflect.InvocationTargetException;
import java.lang.reflect.Method;
import java.lang.reflect.Modifier;
import java.util.Arrays;
import java.util.Map;
import java.util.TreeMap;
import java.util.TreeSet;

/** Promises 1 to 28 together: runs of 512 drawn calls of every kind on one object, each answer compared with WholeModel's. */
final class WholeRunsTest {
    private static final Check CHECK = new Check("WholeRunsTest");
    private static final Map<String, Method> CALLS = callsOfTheFace();
    /** Each is beyond some bound; where it is not, the call is taken. */
    private static final int[] WRONG = {
        Integer.MIN_VALUE, -7, -6, -2, -1, 0, 2, 3, 6, 8, 9, 10, 11, 16, 21, 31, 61, 100, 127, 1024, 10000, Integer.MAX_VALUE};
    /** What changes the state stands here oftener, so that the questions are put to many states. */
    private static final String[] DRAWN = {
        "kin", "kin", "tie", "tie", "tie", "pause", "task", "task", "say", "wipe", "fault", "judge", "behind", "trust", "first",
        "done", "holds", "oldest", "lent", "lent", "stay", "sentences", "seen", "seen", "seen", "seen", "forget", "fits", "ask", "waits",
        "door", "year", "image", "restore", "told", "told"};
    private static long draws = 20261120;

    private final TrustedPause x = new TrustedPause();
    private final WholeModel model = new WholeModel();
    private int calls = 0;

    public static void main(String[] args) {
        CHECK.holds("every call is drawn", new TreeSet<>(Arrays.asList(DRAWN)).equals(CALLS.keySet()));
        for (int run = 0; run < 500; run++) new WholeRunsTest().run();
        CHECK.end();
    }

    private static Map<String, Method> callsOfTheFace() {
        Map<String, Method> calls = new TreeMap<>();
        for (Method m : TrustedPause.class.getDeclaredMethods()) {
            if (Modifier.isPublic(m.getModifiers())) calls.put(m.getName(), m);
        }
        return calls;
    }

    /** The same draws in every run of the test. */
    private static int draw(int below) {
        draws = draws * 6364136223846793005L + 1442695040888963407L;
        return (int) ((draws >>> 33) % below);
    }

    private void run() {
        for (int ties = draw(20); ties > 0; ties--) put("tie", draw(8), draw(8), 1);
        while (calls < 512) {
            if (draw(8) == 0) write(drawnAct());
            else putDrawn(DRAWN[draw(DRAWN.length)]);
            if (draw(3) == 0 && !canBeDone()) put("wipe");
        }
    }

    private boolean canBeDone() {
        return model.answer("fault", new int[0]) == TrustedPause.NONE && model.answer("judge", new int[] {0}) == TrustedPause.NONE;
    }

    private void write(String text) {
        for (int i = 0; i < text.length(); i++) put("say", text.charAt(i));
    }

    private String drawnAct() {
        int with = model.holder();
        char kin = (char) ('A' + (with < 0 || draw(3) == 0 ? draw(8) : with));
        switch (draw(12)) {
            case 0: return "!";
            case 1: case 2: return (char) ('A' + draw(8)) + "=";
            case 3: return (draw(3) == 0 ? kin : (char) ('A' + draw(8))) + "+";
            case 4: case 5: case 6: case 7: return kin + ">" + (char) ('A' + draw(8));
            default: return kin + "\"" + "ddabcdefghij".substring(draw(6), 6 + draw(6)) + "d\"";
        }
    }

    private void putDrawn(String call) {
        int[] a = new int[CALLS.get(call).getParameterCount()];
        for (int i = 0; i < a.length; i++) {
            boolean isTruth = CALLS.get(call).getParameterTypes()[i] == boolean.class;
            a[i] = !isTruth && draw(20) == 0 ? WRONG[draw(WRONG.length)] : rightNumber(call, i, a);
        }
        put(call, a);
    }

    /** Numbers that mostly are not refused; those told ahead of it may bound the next one. */
    private static int rightNumber(String call, int i, int[] a) {
        switch (call) {
            case "kin": return new int[] {draw(8), draw(2) == 0 ? 50 + draw(3) : draw(100), draw(100), draw(1024)}[i];
            case "tie": return i == 2 ? Math.min(1, draw(4)) : draw(8);
            case "pause": return draw(12) == 0 ? -1 : draw(8);
            case "task": return new int[] {draw(6), draw(8), draw(2) == 0 ? draw(8) : draw(100), draw(100)}[i];
            case "say": return "ABCH>\"adj=+!kI".charAt(draw(14));
            case "judge": case "trust": return draw(3);
            case "first": case "stay": case "ask": case "image": case "restore": return draw(2);
            case "behind": return i == 0 ? draw(8) : draw(3);
            case "holds": return i == 0 ? draw(8) : 1 + draw(20);
            case "lent": return i == 2 ? draw(2) : draw(8);
            case "sentences": return new int[] {draw(8), draw(2) == 0 ? 1 + draw(9) : draw(31), draw(1 + boundOf(a, 1, 30)), draw(2)}[i];
            case "seen": return i == 0 ? draw(61) : i == 1 ? draw(8) : Math.max(0, draw(5) - 3);
            case "fits": return draw(4) == 0 ? -1 : draw(draw(2) == 0 ? 20 : 337);
            case "waits": return new int[] {draw(100), 1 + draw(9), draw(10), draw(2)}[i];
            case "door": return new int[] {draw(16), draw(11), draw(1 + boundOf(a, 0, 15)), draw(2), draw(2)}[i];
            case "year": return new int[] {draw(10000), 1 + draw(99), draw(3)}[i];
            case "told": return toldNumber();
            default: return 0;
        }
    }

    private static int boundOf(int[] a, int at, int most) {
        return Math.max(0, Math.min(most, a[at]));
    }

    private static int toldNumber() {
        switch (draw(4)) {
            case 0: return draw(6);
            case 1: return 10 + draw(9);
            case 2: return 20 + 10 * draw(7) + draw(4);
            default: return 100 + 10 * draw(9) + draw(4);
        }
    }

    private void put(String call, int... a) {
        if (calls == 512) return;
        calls++;
        CHECK.same("call " + calls + " of a run, " + call + Arrays.toString(a), answer(CALLS.get(call), a), model.answer(call, a));
    }

    private long answer(Method call, int[] a) {
        Object[] with = new Object[a.length];
        for (int i = 0; i < a.length; i++) {
            with[i] = call.getParameterTypes()[i] == boolean.class ? (Object) (a[i] == 1) : (Object) a[i];
        }
        try {
            return ((Number) call.invoke(x, with)).longValue();
        } catch (InvocationTargetException | IllegalAccessException e) {
            CHECK.holds(call.getName() + Arrays.toString(a) + " threw " + e.getCause(), false);
            return 0;
        }
    }
}
