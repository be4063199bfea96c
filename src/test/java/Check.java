import java.util.ArrayList;
import java.util.List;

/** Counts the answers that are not as due, and ends the run with 1 if there was one. */
final class Check {
    private final String test;
    private int calls = 0;
    private int wrong = 0;

    Check(String test) {
        this.test = test;
    }

    void same(String call, long got, long due) {
        calls++;
        if (got == due) return;
        wrong++;
        System.out.println(test + ": " + call + " answered " + got + ", due is " + due);
    }

    void holds(String what, boolean is) {
        same(what, is ? 1 : 0, 1);
    }

    /** Says a text sign by sign; each sign must be taken. */
    void sayAll(TrustedPause x, String text) {
        int before = x.told(0);
        for (int i = 0; i < text.length(); i++) {
            same("say('" + text.charAt(i) + "')", x.say(text.charAt(i)), before + i + 1);
        }
    }

    /** The PAD holds this text alone behind the call. */
    void write(TrustedPause x, String text) {
        x.wipe();
        sayAll(x, text);
    }

    /** All that told() tells, to be compared before and behind a refused call (55 calls). */
    static List<Integer> stateOf(TrustedPause x) {
        List<Integer> state = new ArrayList<>();
        for (int what = 0; what <= 4; what++) state.add(x.told(what));
        for (int kin = 0; kin < 8; kin++) state.add(x.told(10 + kin));
        for (int task = 0; task < 6; task++) {
            for (int part = 0; part < 3; part++) state.add(x.told(20 + 10 * task + part));
        }
        for (int kin = 0; kin < 8; kin++) {
            for (int part = 0; part < 3; part++) state.add(x.told(100 + 10 * kin + part));
        }
        return state;
    }

    void unchanged(String call, List<Integer> before, TrustedPause x) {
        holds(call + " changes nothing", before.equals(stateOf(x)));
    }

    void end() {
        System.out.println(test + ": " + calls + " answers looked at, " + wrong + " not as due");
        if (wrong != 0) System.exit(1);
    }
}
