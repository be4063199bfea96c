import java.util.ArrayList;
import java.util.Arrays;
import java.util.List;

/**
 * Promises 2 to 28: every mixture of right and wrong numbers at every call, in several states. The refusal that the
 * document names first is answered, and neither a refused call nor a question changes anything.
 */
final class RefusalsTest {
    private static final Check CHECK = new Check("RefusalsTest");
    private static final int LOW = Integer.MIN_VALUE, HIGH = Integer.MAX_VALUE;
    private static final long UNKNOWN = -1, OUTSIDE = -2, STATE = -3, FULL = -4, NO = -5, NONE = -6, GONE = -1000000000000000000L;
    private static final long TAKEN = 0;

    private static final int[] KINS = {LOW, -6, -1, 0, 2, 7, 8, HIGH};
    private static final int[] TASKS = {LOW, -1, 0, 5, 6, HIGH};
    private static final int[] TWO = {LOW, -1, 0, 1, 2, HIGH};
    private static final int[] THREE = {LOW, -1, 0, 1, 2, 3, HIGH};
    /** Looked at behind a batch of calls, which with this must stay within 512. */
    private static final int BATCH = 120;

    private interface Call {
        long on(TrustedPause x, int[] a);
    }

    private interface Due {
        long of(Situation s, int[] a);
    }

    /** What of a state decides whether calls are refused. */
    private record Situation(String name, boolean fault, boolean stuck, boolean padFull, boolean sightsFull, boolean kept0, int living) {
        boolean lives(int kin) {
            return (living >> kin & 1) == 1;
        }

        TrustedPause make() {
            TrustedPause x = new TrustedPause();
            if (living == 0) done(x, "A+B+C+D+E+F+G+H+");
            else if (living != 255) lively(x);
            if (kept0) x.image(0);
            if (kept0) x.pause(-1);
            if (fault) write(x, "!!A>");
            else if (padFull) write(x, "!".repeat(60));
            else if (stuck) write(x, "A\"d\"B=!!");
            else if (kept0) write(x, "B\"d\"H=");
            for (int i = 0; sightsFull && i < 8; i++) x.seen(i, 7 - i, false);
            return x;
        }
    }

    private static final List<Situation> SITUATIONS = List.of(
        new Situation("as made", false, false, false, false, false, 255),
        new Situation("lively", false, false, false, false, true, 255 - 4),
        new Situation("with a FAULT behind an ACT that can not be", true, true, false, true, false, 255 - 4),
        new Situation("with a full PAD of ACTS that can not be", false, true, true, true, true, 255),
        new Situation("with an ACT that can not be", false, true, false, false, true, 255 - 4),
        new Situation("with nobody who lives and an empty PAD", false, false, false, true, false, 0),
        new Situation("with nobody who lives and an ACT that can not be", false, true, false, false, true, 0));

    public static void main(String[] args) {
        for (Situation s : SITUATIONS) {
            situationIsAsTold(s);
            kinAndPause(s);
            pad(s);
            days(s);
            lending(s);
            rounds(s);
            chance(s);
            images(s);
        }
        CHECK.end();
    }


    private static void write(TrustedPause x, String text) {
        for (char sign : text.toCharArray()) x.say(sign);
    }

    private static void done(TrustedPause x, String text) {
        write(x, text);
        CHECK.holds("done() of " + text, x.done() > 0);
    }

    private static void lively(TrustedPause x) {
        x.kin(7, 60, 45, 9);
        x.tie(0, 1, true);
        x.tie(1, 2, true);
        x.tie(2, 7, true);
        x.task(0, 1, 2, 3);
        x.task(5, 0, 9, 8);
        x.seen(1, 1, true);
        done(x, "A\"d\"A>BC+");
    }

    private static void situationIsAsTold(Situation s) {
        TrustedPause x = s.make();
        CHECK.same(s.name + ": FAULT", x.fault() == NONE ? 0 : 1, s.fault ? 1 : 0);
        if (!s.fault) CHECK.same(s.name + ": some ACT can not be", x.judge(0) == NONE ? 0 : 1, s.stuck ? 1 : 0);
        CHECK.same(s.name + ": full PAD", x.told(0) == 60 ? 1 : 0, s.padFull ? 1 : 0);
        CHECK.same(s.name + ": eight SIGHTS", x.told(4) == 8 ? 1 : 0, s.sightsFull ? 1 : 0);
        CHECK.same(s.name + ": who live", x.told(1), s.living);
    }

    private static boolean isIn(int number, int least, int most) {
        return number >= least && number <= most;
    }

    private static boolean isKin(int number) {
        return isIn(number, 0, 7);
    }

    private static long outsideIf(boolean is) {
        return is ? OUTSIDE : TAKEN;
    }

    /** Numbers at and beside both bounds, and far outside. */
    private static int[] around(int least, int most) {
        return new int[] {LOW, least - 1, least, most, most + 1, HIGH};
    }

    private static void kinAndPause(Situation s) {
        changes(s, "kin", (x, a) -> x.kin(a[0], a[1], a[2], a[3]), (t, a) -> !isKin(a[0]) ? UNKNOWN
            : outsideIf(!isIn(a[1], 0, 99) || !isIn(a[2], 0, 99) || !isIn(a[3], 0, 1023)), KINS, around(0, 99), around(0, 99), around(0, 1023));
        changes(s, "tie", (x, a) -> x.tie(a[0], a[1], a[2] == 1), (t, a) -> !isKin(a[0]) || !isKin(a[1]) || a[0] == a[1] ? UNKNOWN : TAKEN,
            KINS, KINS, new int[] {0, 1});
        changes(s, "pause", (x, a) -> x.pause(a[0]), (t, a) -> a[0] == -1 ? TAKEN : !isKin(a[0]) ? UNKNOWN : t.lives(a[0]) ? TAKEN : STATE, KINS);
        changes(s, "task", (x, a) -> x.task(a[0], a[1], a[2], a[3]), (t, a) -> !isIn(a[0], 0, 5) || !isKin(a[1]) ? UNKNOWN
            : outsideIf(!isIn(a[2], 0, 99) || !isIn(a[3], 0, 99)), TASKS, KINS, around(0, 99), around(0, 99));
    }

    private static void pad(Situation s) {
        changes(s, "say", (x, a) -> x.say(a[0]), (t, a) -> !isIn(a[0], 33, 126) ? OUTSIDE : t.padFull ? FULL : TAKEN, around(33, 126));
        changes(s, "wipe", (x, a) -> x.wipe(), (t, a) -> TAKEN);
        asks(s, "fault", (x, a) -> x.fault(), (t, a) -> TAKEN);
    }

    private static long ofDay(Situation s) {
        return s.fault ? NO : s.stuck ? STATE : TAKEN;
    }

    private static void days(Situation s) {
        asks(s, "judge", (x, a) -> x.judge(a[0]), (t, a) -> !isIn(a[0], 0, 2) ? OUTSIDE : a[0] == 2 ? ofDay(t) : t.fault ? NO : TAKEN, THREE);
        asks(s, "behind", (x, a) -> x.behind(a[0], a[1]), (t, a) -> !isKin(a[0]) ? UNKNOWN : !isIn(a[1], 0, 2) ? OUTSIDE : ofDay(t), KINS, THREE);
        asks(s, "trust", (x, a) -> x.trust(a[0]), (t, a) -> !isIn(a[0], 0, 2) ? OUTSIDE : ofDay(t), THREE);
        asks(s, "first", (x, a) -> x.first(a[0]), (t, a) -> !isIn(a[0], 0, 1) ? OUTSIDE : ofDay(t), TWO);
        changes(s, "done", (x, a) -> x.done(), (t, a) -> ofDay(t));
        asks(s, "holds", (x, a) -> x.holds(a[0], a[1]), (t, a) -> !isKin(a[0]) ? UNKNOWN : outsideIf(!isIn(a[1], 1, 20)), KINS, around(1, 20));
        asks(s, "oldest", (x, a) -> x.oldest(), (t, a) -> TAKEN);
    }

    private static void lending(Situation s) {
        asks(s, "lent", (x, a) -> x.lent(a[0], a[1], a[2]), (t, a) -> !isKin(a[0]) || !isKin(a[1]) ? UNKNOWN : !isIn(a[2], 0, 1) ? OUTSIDE
            : t.lives(a[0]) && t.lives(a[1]) ? TAKEN : STATE, KINS, KINS, TWO);
        asks(s, "stay", (x, a) -> x.stay(a[0]), (t, a) -> outsideIf(!isIn(a[0], 0, 1)), TWO);
        int[] lengths = {LOW, -1, 0, 1, 9, 10, 30, 31, HIGH};
        asks(s, "sentences", (x, a) -> x.sentences(a[0], a[1], a[2], a[3]), (t, a) -> !isKin(a[0]) ? UNKNOWN
            : outsideIf(!isIn(a[1], 0, 30) || !isIn(a[2], 0, a[1]) || !isIn(a[3], 0, 1) || a[3] == 1 && !isIn(a[1], 1, 9)), KINS, lengths, lengths, TWO);
    }

    private static void rounds(Situation s) {
        changes(s, "seen", (x, a) -> x.seen(a[0], a[1], a[2] == 1), (t, a) -> !isKin(a[1]) ? UNKNOWN : !isIn(a[0], 0, 60) ? OUTSIDE
            : t.sightsFull ? FULL : TAKEN, around(0, 60), KINS, new int[] {0, 1});
        changes(s, "forget", (x, a) -> x.forget(), (t, a) -> TAKEN);
        asks(s, "fits", (x, a) -> x.fits(a[0]), (t, a) -> TAKEN, around(-1, 335));
        asks(s, "ask", (x, a) -> x.ask(a[0]), (t, a) -> outsideIf(!isIn(a[0], 0, 1)), TWO);
    }

    private static void chance(Situation s) {
        asks(s, "waits", (x, a) -> x.waits(a[0], a[1], a[2], a[3]), (t, a) -> outsideIf(!isIn(a[0], 0, 99) || !isIn(a[1], 1, 9)
            || !isIn(a[2], 0, 9) || !isIn(a[3], 0, 1)), around(0, 99), around(1, 9), around(0, 9), TWO);
        asks(s, "door", (x, a) -> x.door(a[0], a[1], a[2], a[3], a[4]), (t, a) -> !isIn(a[0], 0, 15) || !isIn(a[1], 0, 10) || !isIn(a[2], 0, a[0])
            || !isIn(a[3], 0, 1) || !isIn(a[4], 0, 1) ? GONE + OUTSIDE : TAKEN,
            new int[] {LOW, -1, 0, 5, 15, 16, HIGH}, around(0, 10), new int[] {LOW, -1, 0, 5, 6, 15, 16, HIGH}, TWO, TWO);
        asks(s, "year", (x, a) -> x.year(a[0], a[1], a[2]), (t, a) -> outsideIf(!isIn(a[0], 0, 9999) || !isIn(a[1], 1, 99) || !isIn(a[2], 0, 2)),
            around(0, 9999), around(1, 99), THREE);
    }

    private static void images(Situation s) {
        changes(s, "image", (x, a) -> x.image(a[0]), (t, a) -> outsideIf(!isIn(a[0], 0, 1)), TWO);
        changes(s, "restore", (x, a) -> x.restore(a[0]), (t, a) -> !isIn(a[0], 0, 1) ? OUTSIDE : a[0] == 0 && t.kept0 ? TAKEN : STATE, TWO);
        int[] whats = new int[220];
        for (int i = 0; i < whats.length; i++) whats[i] = i - 20;
        asks(s, "told", (x, a) -> x.told(a[0]), (t, a) -> outsideIf(!isTold(a[0])), whats);
        asks(s, "told", (x, a) -> x.told(a[0]), (t, a) -> outsideIf(!isTold(a[0])), new int[] {LOW, HIGH, 1000, -1000});
    }

    private static boolean isTold(int what) {
        return isIn(what, 0, 4) || isIn(what, 10, 17) || (isIn(what, 20, 79) || isIn(what, 100, 179)) && what % 10 < 3;
    }

    /** A call that is taken may change something, so it has an object of its own. */
    private static void changes(Situation s, String name, Call call, Due due, int[]... values) {
        List<int[]> refused = new ArrayList<>();
        for (int[] a : mixtures(values)) {
            if (due.of(s, a) != TAKEN) refused.add(a);
            else answer(s, name, s.make(), call, due, a);
        }
        leaveAsItWas(s, name, call, due, refused);
    }

    private static void asks(Situation s, String name, Call call, Due due, int[]... values) {
        leaveAsItWas(s, name, call, due, mixtures(values));
    }

    private static void leaveAsItWas(Situation s, String name, Call call, Due due, List<int[]> all) {
        List<Long> before = look(s.make());
        for (int from = 0; from < all.size(); from += BATCH) {
            TrustedPause x = s.make();
            for (int[] a : all.subList(from, Math.min(all.size(), from + BATCH))) answer(s, name, x, call, due, a);
            CHECK.holds(s.name + ": " + name + " changes nothing", look(x).equals(before));
        }
    }

    private static void answer(Situation s, String name, TrustedPause x, Call call, Due due, int[] a) {
        long refusal = due.of(s, a);
        long got = call.on(x, a);
        String told = s.name + ": " + name + Arrays.toString(a);
        if (refusal != TAKEN) CHECK.same(told, got, refusal);
        else CHECK.holds(told + " is taken, and answered " + got, got >= 0 || got == NONE);
    }

    private static List<int[]> mixtures(int[]... values) {
        List<int[]> all = new ArrayList<>();
        all.add(new int[0]);
        for (int[] column : values) {
            List<int[]> longer = new ArrayList<>();
            for (int[] a : all) {
                for (int value : column) {
                    int[] b = Arrays.copyOf(a, a.length + 1);
                    b[a.length] = value;
                    longer.add(b);
                }
            }
            all = longer;
        }
        return all;
    }

    /** All that can be seen of an object, its IMAGES too; it is not the same behind. */
    private static List<Long> look(TrustedPause x) {
        List<Long> seen = new ArrayList<>();
        lookAtState(x, seen);
        seen.add((long) x.fault());
        for (int what = 0; what < 3; what++) {
            seen.add((long) x.judge(what));
            seen.add((long) x.trust(what));
        }
        seen.add((long) x.say('A'));
        seen.add((long) x.fault());
        for (int k = 0; k < 2; k++) {
            seen.add((long) x.restore(k));
            lookAtState(x, seen);
        }
        return seen;
    }

    private static void lookAtState(TrustedPause x, List<Long> seen) {
        for (int told : Check.stateOf(x)) seen.add((long) told);
        seen.add((long) x.fits(-1));
        seen.add((long) x.fits(0));
        seen.add((long) x.ask(0));
        seen.add((long) x.stay(0));
    }
}
