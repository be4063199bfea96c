import java.util.ArrayList;
import java.util.List;

/** Promises 19 to 22: seen, forget, fits, ask. */
final class RoundsTest {
    private static final Check CHECK = new Check("RoundsTest");
    private static final int LOW = Integer.MIN_VALUE, HIGH = Integer.MAX_VALUE;

    public static void main(String[] args) {
        seen();
        seenRefused();
        forget();
        fitsOfNothingSeen();
        fits();
        askOfNothingSeen();
        askNarrows();
        askLast();
        askOfNothingThatFits();
        CHECK.end();
    }

    private static void seen() {
        TrustedPause x = new TrustedPause();
        CHECK.same("seen(0, 0, true)", x.seen(0, 0, true), 1);
        CHECK.same("seen(60, 7, false)", x.seen(60, 7, false), 2);
        CHECK.same("the same again", x.seen(0, 0, true), 3);
        CHECK.same("told(4)", x.told(4), 3);
    }

    private static void seenRefused() {
        TrustedPause x = new TrustedPause();
        refuseSeen(x, 0);
        for (int i = 1; i <= 8; i++) CHECK.same("seen(1, 1, true)", x.seen(1, 1, true), i);
        List<Integer> before = Check.stateOf(x);
        int fits = x.fits(-1);
        CHECK.same("seen on eight", x.seen(2, 2, true), -4);
        CHECK.same("seen on eight", x.seen(2, 1, false), -4);
        refuseSeen(x, 8);
        CHECK.unchanged("a refused seen", before, x);
        CHECK.same("fits(-1)", x.fits(-1), fits);
    }

    private static void refuseSeen(TrustedPause x, int count) {
        CHECK.same("seen(0, -1)", x.seen(0, -1, true), -1);
        CHECK.same("seen(0, 8)", x.seen(0, 8, true), -1);
        CHECK.same("seen(61, 8)", x.seen(61, 8, true), -1);
        CHECK.same("seen(-1, 0)", x.seen(-1, 0, true), -2);
        CHECK.same("seen(61, 0)", x.seen(61, 0, true), -2);
        CHECK.same("seen(LOW, HIGH)", x.seen(LOW, HIGH, false), -1);
        CHECK.same("seen(HIGH, 0)", x.seen(HIGH, 0, false), -2);
        CHECK.same("told(4)", x.told(4), count);
    }

    private static void forget() {
        TrustedPause x = new TrustedPause();
        CHECK.same("forget()", x.forget(), 0);
        for (int i = 0; i < 8; i++) x.seen(0, i, false);
        CHECK.same("fits(-1)", x.fits(-1), 0);
        CHECK.same("forget()", x.forget(), 8);
        CHECK.same("forget()", x.forget(), 0);
        CHECK.same("fits(-1)", x.fits(-1), 336);
        CHECK.same("seen(0, 0, true)", x.seen(0, 0, true), 1);
        CHECK.same("fits(-1)", x.fits(-1), 42);
    }

    private static void fitsOfNothingSeen() {
        TrustedPause x = new TrustedPause();
        int i = 0;
        for (int f = 0; f < 8; f++) {
            for (int s = 1; s <= 7; s++) {
                for (int p = 1; p <= 6; p++) {
                    CHECK.same("fits(" + i + ")", x.fits(i), 100 * f + 10 * s + p);
                    i++;
                }
            }
        }
        CHECK.same("fits(336)", x.fits(336), -6);
        CHECK.same("fits(-2)", x.fits(-2), -6);
        CHECK.same("fits(LOW)", x.fits(LOW), -6);
        CHECK.same("fits(HIGH)", x.fits(HIGH), -6);
        CHECK.same("fits(-1)", x.fits(-1), 336);
    }

    /** Who has it at each minute, by going round minute by minute. */
    private static int[] holdersOf(int f, int s, int p) {
        int[] holders = new int[61];
        int with = f;
        for (int minute = 0; minute <= 60; minute++) {
            if (minute > 0 && minute % p == 0) with = (with + s) % 8;
            holders[minute] = with;
        }
        return holders;
    }

    private static List<Integer> fitting(int[][] sights) {
        List<Integer> found = new ArrayList<>();
        for (int f = 0; f < 8; f++) {
            for (int s = 1; s <= 7; s++) {
                for (int p = 1; p <= 6; p++) {
                    int[] holders = holdersOf(f, s, p);
                    boolean fits = true;
                    for (int[] sight : sights) fits &= (holders[sight[0]] == sight[1]) == (sight[2] == 1);
                    if (fits) found.add(100 * f + 10 * s + p);
                }
            }
        }
        return found;
    }

    private static void fits() {
        int[][][] runs = {
            {{0, 3, 1}}, {{60, 3, 1}}, {{60, 3, 0}, {59, 4, 0}}, {{0, 0, 1}, {6, 1, 1}}, {{5, 2, 1}, {6, 2, 1}},
            {{7, 7, 0}, {8, 7, 0}, {9, 7, 0}, {10, 7, 0}, {11, 7, 0}, {12, 7, 0}, {13, 7, 0}, {14, 7, 0}},
            {{3, 3, 1}, {3, 3, 1}}, {{3, 3, 1}, {3, 3, 0}}, {{0, 7, 1}, {60, 7, 1}, {30, 3, 1}}};
        for (int[][] sights : runs) {
            TrustedPause x = new TrustedPause();
            for (int[] s : sights) x.seen(s[0], s[1], s[2] == 1);
            List<Integer> due = fitting(sights);
            CHECK.same("fits(-1)", x.fits(-1), due.size());
            for (int i = 0; i < due.size(); i++) CHECK.same("fits(" + i + ")", x.fits(i), due.get(i));
            CHECK.same("fits behind the last", x.fits(due.size()), -6);
        }
    }

    private static void askOfNothingSeen() {
        TrustedPause x = new TrustedPause();
        CHECK.same("ask(0)", x.ask(0), 0);
        CHECK.same("ask(1)", x.ask(1), 294);
        for (int what : new int[] {-1, 2, LOW, HIGH}) CHECK.same("ask(" + what + ")", x.ask(what), -2);
        CHECK.same("told(4)", x.told(4), 0);
    }

    /** Each question is put and answered; what is left is never more than was told. */
    private static void askNarrows() {
        for (int truth : new int[] {0, 47, 155, 211, 335}) {
            TrustedPause x = new TrustedPause();
            int code = x.fits(truth);
            int[] holders = holdersOf(code / 100, code / 10 % 10, code % 10);
            List<int[]> sights = new ArrayList<>();
            for (int i = 0; i < 8; i++) {
                int question = x.ask(0);
                int left = x.ask(1);
                int[] due = questionOf(fitting(sights.toArray(new int[0][])));
                CHECK.same("ask(0)", question, due[0]);
                CHECK.same("ask(1)", left, due[1]);
                boolean silent = holders[question / 10] == question % 10;
                x.seen(question / 10, question % 10, silent);
                sights.add(new int[] {question / 10, question % 10, silent ? 1 : 0});
                CHECK.holds("so many are left at the most", x.fits(-1) <= left && x.fits(-1) >= 1);
            }
        }
    }

    /** Here the last minute is the only one that halves what fits. */
    private static void askLast() {
        int[][] sights = {{56, 6, 0}, {9, 0, 0}, {41, 0, 0}, {26, 7, 0}, {29, 7, 1}};
        TrustedPause x = new TrustedPause();
        for (int[] s : sights) x.seen(s[0], s[1], s[2] == 1);
        int[] due = questionOf(fitting(sights));
        CHECK.same("due", due[0], 607);
        CHECK.same("ask(0)", x.ask(0), 607);
        CHECK.same("ask(1)", x.ask(1), due[1]);
    }

    private static int[] questionOf(List<Integer> codes) {
        int[] best = {-6, codes.size() + 1};
        for (int question = 0; question <= 607; question++) {
            if (question % 10 > 7) continue;
            int silent = 0;
            for (int code : codes) {
                int[] holders = holdersOf(code / 100, code / 10 % 10, code % 10);
                if (holders[question / 10] == question % 10) silent++;
            }
            int left = Math.max(silent, codes.size() - silent);
            if (left < best[1]) best = new int[] {question, left};
        }
        return best;
    }

    private static void askOfNothingThatFits() {
        TrustedPause x = new TrustedPause();
        x.seen(5, 5, true);
        x.seen(5, 5, false);
        CHECK.same("ask(0)", x.ask(0), -6);
        CHECK.same("ask(1)", x.ask(1), -6);
        CHECK.same("ask(2)", x.ask(2), -2);
        CHECK.same("fits(0)", x.fits(0), -6);
        CHECK.same("fits(-1)", x.fits(-1), 0);
        x.forget();
        x.seen(0, 2, true);
        x.seen(1, 5, true);
        CHECK.same("one is left", x.fits(-1), 1);
        CHECK.same("ask(0)", x.ask(0), 0);
        CHECK.same("ask(1)", x.ask(1), 1);
    }
}
