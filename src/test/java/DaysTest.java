import java.util.List;

/** Promises 9 to 15: judge, behind, trust, first, done, holds, oldest. */
final class DaysTest {
    private static final Check CHECK = new Check("DaysTest");

    public static void main(String[] args) {
        emptyPad();
        orderOfRefusals();
        reasons();
        leastReason();
        lending();
        saying();
        resting();
        dying();
        doors();
        firstSaved();
        done();
        longestDay();
        holds();
        oldest();
        CHECK.end();
    }

    private static void judged(TrustedPause x, String text, int act, int why) {
        CHECK.write(x, text);
        CHECK.same("judge(0) of " + text, x.judge(0), act);
        CHECK.same("judge(1) of " + text, x.judge(1), why);
        boolean can = act == -6;
        CHECK.holds("judge(2) of " + text, can == (x.judge(2) >= 0) && (can || x.judge(2) == -3));
    }

    private static void emptyPad() {
        TrustedPause x = new TrustedPause();
        CHECK.same("judge(0)", x.judge(0), -6);
        CHECK.same("judge(1)", x.judge(1), -6);
        CHECK.same("judge(2)", x.judge(2), 0);
        CHECK.same("behind(0, 0)", x.behind(0, 0), 1);
        CHECK.same("behind(7, 0)", x.behind(7, 0), 1);
        CHECK.same("behind(0, 1)", x.behind(0, 1), 30);
        CHECK.same("behind(0, 2)", x.behind(0, 2), 1);
        CHECK.same("behind(1, 2)", x.behind(1, 2), 0);
        CHECK.same("trust(0)", x.trust(0), 0);
        CHECK.same("trust(1)", x.trust(1), 0);
        CHECK.same("trust(2)", x.trust(2), 255);
        CHECK.same("first(0)", x.first(0), -6);
        CHECK.same("first(1)", x.first(1), -6);
        CHECK.same("done()", x.done(), 0);
        x.pause(-1);
        CHECK.same("trust(0)", x.trust(0), -6);
        CHECK.same("behind(0, 2)", x.behind(0, 2), 0);
    }

    /** A FAULT behind an ACT that can not be: NO is told ahead of STATE, wrong numbers ahead of both. */
    private static void orderOfRefusals() {
        TrustedPause x = new TrustedPause();
        String[] texts = {"A>B", "A>BI", "A>BA"};
        int[] due = {-3, -5, -5};
        for (int i = 0; i < texts.length; i++) {
            CHECK.write(x, texts[i]);
            List<Integer> before = Check.stateOf(x);
            for (int what = 0; what < 3; what++) {
                CHECK.same("behind", x.behind(7, what), due[i]);
                CHECK.same("trust", x.trust(what), due[i]);
                if (what < 2) CHECK.same("first", x.first(what), due[i]);
            }
            CHECK.same("judge(2)", x.judge(2), due[i]);
            CHECK.same("judge(0)", x.judge(0), due[i] == -5 ? -5 : 0);
            CHECK.same("judge(1)", x.judge(1), due[i] == -5 ? -5 : 3);
            CHECK.same("done()", x.done(), due[i]);
            for (int what : new int[] {-1, 3, Integer.MIN_VALUE, Integer.MAX_VALUE}) {
                CHECK.same("judge(" + what + ")", x.judge(what), -2);
                CHECK.same("trust(" + what + ")", x.trust(what), -2);
                CHECK.same("first(" + what + ")", x.first(what), -2);
                CHECK.same("behind(0, " + what + ")", x.behind(0, what), -2);
                CHECK.same("behind(8, " + what + ")", x.behind(8, what), -1);
            }
            CHECK.same("first(2)", x.first(2), -2);
            CHECK.same("behind(-1, 0)", x.behind(-1, 0), -1);
            CHECK.same("behind(8, 0)", x.behind(8, 0), -1);
            CHECK.unchanged("a refused day", before, x);
        }
    }

    private static void reasons() {
        TrustedPause x = new TrustedPause();
        x.tie(0, 1, true);
        judged(x, "A>B", -6, -6);
        judged(x, "B>A", 0, 2);
        judged(x, "A>C", 0, 3);
        judged(x, "A>A", 0, 3);
        judged(x, "A>BA>B", 1, 2);
        judged(x, "B+A>B", 1, 1);
        judged(x, "B+B>A", 1, 1);
        judged(x, "B+B\"d\"", 1, 1);
        judged(x, "B+B=", 1, 1);
        judged(x, "B+B+", 1, 1);
        judged(x, "B=B=B=B=B=", 4, 4);
        judged(x, "!", 0, 5);
        judged(x, "A>B!", -6, -6);
        judged(x, "A>B!!", 2, 5);
        judged(x, "A+B+C+D+E+F+G+H+!", 8, 5);
        judged(x, "A+B+C+D+E+F+G+H+A=", 8, 1);
        judged(x, "B+A>B", 1, 1);
    }

    /** Several reasons at once: the least is told, and what comes behind the first such ACT is not looked at. */
    private static void leastReason() {
        TrustedPause x = new TrustedPause();
        judged(x, "B>C", 0, 2);
        judged(x, "C+B>C", 1, 1);
        judged(x, "B>B", 0, 2);
        x.kin(1, 50, 99, 8);
        judged(x, "B=", 0, 4);
        judged(x, "B+B=", 1, 1);
        judged(x, "B=A>B", 0, 4);
        x.pause(-1);
        judged(x, "A>B", 0, 2);
        judged(x, "!", -6, -6);
    }

    private static void lending() {
        TrustedPause x = new TrustedPause();
        x.tie(0, 1, true);
        x.tie(2, 1, true);
        CHECK.write(x, "A>BB>C");
        CHECK.same("trust(0)", x.trust(0), 2);
        CHECK.same("behind(2, 2)", x.behind(2, 2), 1);
        CHECK.same("behind(0, 2)", x.behind(0, 2), 0);
        CHECK.same("told(2)", x.told(2), 0);
        judged(x, "A>BB>CC>A", 2, 3);
    }

    private static void saying() {
        TrustedPause x = new TrustedPause();
        CHECK.write(x, "A\"adddd\"");
        CHECK.same("judge(2)", x.judge(2), 60);
        CHECK.same("behind(0, 1)", x.behind(0, 1), 0);
        CHECK.write(x, "A\"d\"A\"cd\"");
        CHECK.same("judge(2)", x.judge(2), 50);
        CHECK.same("behind(0, 1)", x.behind(0, 1), 10);
        CHECK.write(x, "B\"d\"");
        CHECK.same("judge(2)", x.judge(2), 0);
        CHECK.same("behind(1, 1)", x.behind(1, 1), 30);
        x.kin(0, 50, 15, 513);
        CHECK.write(x, "A\"bdajj\"");
        CHECK.same("judge(2)", x.judge(2), 20);
        CHECK.same("behind(0, 1)", x.behind(0, 1), 0);
        x.kin(0, 50, 9, 1);
        CHECK.write(x, "A\"aa\"");
        CHECK.same("judge(2)", x.judge(2), 9);
        x.kin(0, 50, 99, 0);
        CHECK.write(x, "A\"abcdefghij\"");
        CHECK.same("judge(2)", x.judge(2), 0);
        CHECK.same("behind(0, 1)", x.behind(0, 1), 99);
    }

    private static void resting() {
        TrustedPause x = new TrustedPause();
        CHECK.write(x, "B=");
        CHECK.same("behind(1, 1)", x.behind(1, 1), 50);
        x.kin(1, 50, 79, 8);
        CHECK.same("behind(1, 1)", x.behind(1, 1), 99);
        x.kin(1, 50, 80, 8);
        CHECK.same("behind(1, 1)", x.behind(1, 1), 99);
        x.kin(1, 50, 78, 8);
        CHECK.same("behind(1, 1)", x.behind(1, 1), 98);
        x.kin(1, 50, 98, 8);
        CHECK.same("behind(1, 1)", x.behind(1, 1), 99);
        x.kin(1, 50, 99, 8);
        CHECK.same("behind(1, 1)", x.behind(1, 1), -3);
        CHECK.same("judge(1)", x.judge(1), 4);
        x.kin(1, 50, 0, 8);
        CHECK.same("behind(1, 1)", x.behind(1, 1), 20);
    }

    private static void dying() {
        TrustedPause x = new TrustedPause();
        x.kin(6, 90, 30, 8);
        CHECK.write(x, "A+");
        CHECK.same("without ties: the oldest of all", x.trust(0), 6);
        CHECK.same("trust(2)", x.trust(2), 254);
        CHECK.same("behind(0, 0)", x.behind(0, 0), 0);
        CHECK.same("behind(0, 1)", x.behind(0, 1), 30);
        x.tie(0, 5, true);
        x.tie(0, 3, true);
        CHECK.same("tied, as old: the least", x.trust(0), 3);
        x.kin(5, 51, 30, 8);
        CHECK.same("tied: the oldest", x.trust(0), 5);
        CHECK.write(x, "F+A+");
        CHECK.same("one tied is dead", x.trust(0), 3);
        CHECK.write(x, "F+D+A+");
        CHECK.same("all tied are dead", x.trust(0), 6);
        CHECK.write(x, "G+");
        CHECK.same("who has it not", x.trust(0), 0);
        CHECK.write(x, "B+C+D+E+F+G+H+A+");
        CHECK.same("nobody lives", x.trust(0), -6);
        CHECK.same("nobody lives", x.trust(2), 0);
        CHECK.same("done()", x.done(), 8);
        CHECK.same("told(2)", x.told(2), -6);
        CHECK.same("ties stay", x.told(10), 40);
        CHECK.same("oldest()", x.oldest(), -6);
        x.kin(4, 1, 1, 1);
        CHECK.same("told(2)", x.told(2), -6);
        CHECK.write(x, "!");
        CHECK.same("trust(0)", x.trust(0), 4);
    }

    private static void doors() {
        TrustedPause x = new TrustedPause();
        CHECK.write(x, "!");
        CHECK.same("judge(1)", x.judge(1), 5);
        x.kin(5, 51, 30, 8);
        x.kin(6, 51, 30, 8);
        CHECK.same("trust(0)", x.trust(0), 5);
        CHECK.write(x, "F+!");
        CHECK.same("trust(0)", x.trust(0), 6);
        CHECK.write(x, "!F+");
        CHECK.same("trust(0)", x.trust(0), 6);
        CHECK.write(x, "!F+!");
        CHECK.same("judge(0)", x.judge(0), 2);
    }

    private static void firstSaved() {
        TrustedPause x = new TrustedPause();
        x.tie(0, 2, true);
        x.kin(2, 50, 5, 1);
        CHECK.write(x, "B\"d\"A\"abc\"A>CC\"d\"C\"a\"C\"a\"");
        CHECK.same("first(0)", x.first(0), 4);
        CHECK.same("first(1)", x.first(1), 2);
        CHECK.write(x, "A\"d\"");
        CHECK.same("first(0)", x.first(0), 0);
        CHECK.same("first(1)", x.first(1), 0);
        x.kin(0, 50, 0, 8);
        CHECK.write(x, "A\"ddd\"");
        CHECK.same("no breath", x.first(0), -6);
        CHECK.same("no breath", x.first(1), -6);
        CHECK.write(x, "A\"ddd\"A=A\"d\"");
        CHECK.same("first(0)", x.first(0), 2);
        CHECK.same("first(1)", x.first(1), 0);
    }

    private static void done() {
        TrustedPause x = new TrustedPause();
        x.tie(0, 1, true);
        CHECK.write(x, "A\"d\"A>BC+H=");
        CHECK.same("done()", x.done(), 4);
        CHECK.same("told(0)", x.told(0), 0);
        CHECK.same("told(1)", x.told(1), 251);
        CHECK.same("told(2)", x.told(2), 1);
        CHECK.same("told(3)", x.told(3), 30);
        CHECK.same("told(101)", x.told(101), 20);
        CHECK.same("told(171)", x.told(171), 50);
        CHECK.write(x, "B\"d\"!A\"d\"");
        CHECK.same("judge(2)", x.judge(2), 50);
        CHECK.same("trust(1)", x.trust(1), 80);
        CHECK.same("told(3)", x.told(3), 30);
        CHECK.same("done()", x.done(), 3);
        CHECK.same("told(3)", x.told(3), 80);
        CHECK.same("done()", x.done(), 0);
    }

    private static void longestDay() {
        TrustedPause x = new TrustedPause();
        CHECK.write(x, "!".repeat(60));
        CHECK.same("judge(0)", x.judge(0), 0);
        CHECK.write(x, "A=A\"d\"".repeat(10));
        CHECK.same("done()", x.done(), 20);
        CHECK.same("told(3)", x.told(3), 50 + 60 + 70 + 80 + 90 + 99 + 99 + 99 + 99 + 99);
        x.kin(1, 50, 99, 8);
        CHECK.write(x, "A\"" + "d".repeat(57) + "\"");
        CHECK.same("judge(2)", x.judge(2), 89 + 79 + 69 + 59 + 49 + 39 + 29 + 19 + 9);
    }

    private static void holds() {
        TrustedPause x = new TrustedPause();
        x.kin(1, 50, 99, 0);
        CHECK.same("holds(0, 1)", x.holds(0, 1), 30);
        CHECK.same("holds(0, 3)", x.holds(0, 3), 60);
        CHECK.same("holds(0, 20)", x.holds(0, 20), 60);
        CHECK.same("holds(1, 20)", x.holds(1, 20), 540);
        CHECK.same("holds(1, 2)", x.holds(1, 2), 188);
        x.kin(7, 50, 5, 0);
        CHECK.same("holds(7, 2)", x.holds(7, 2), 5);
        CHECK.write(x, "B+");
        x.done();
        CHECK.same("of a dead one", x.holds(1, 2), 188);
        CHECK.same("holds(-1, 1)", x.holds(-1, 1), -1);
        CHECK.same("holds(8, 0)", x.holds(8, 0), -1);
        CHECK.same("holds(0, 0)", x.holds(0, 0), -2);
        CHECK.same("holds(0, 21)", x.holds(0, 21), -2);
        CHECK.same("holds(0, LOW)", x.holds(0, Integer.MIN_VALUE), -2);
        CHECK.same("told(101)", x.told(101), 30);
    }

    private static void oldest() {
        TrustedPause x = new TrustedPause();
        CHECK.same("oldest()", x.oldest(), 0);
        x.kin(7, 51, 1, 1);
        x.kin(4, 51, 1, 1);
        CHECK.same("oldest()", x.oldest(), 4);
        CHECK.write(x, "E+");
        CHECK.same("as things are now", x.oldest(), 4);
        x.done();
        CHECK.same("oldest()", x.oldest(), 7);
        for (int kin = 0; kin < 8; kin++) x.kin(kin, 0, 1, 1);
        CHECK.same("all of age 0", x.oldest(), 0);
    }
}
