/** Promises 23 to 25, and the terms that they lean on: each sentence that names an edge, with calls of its own. */
final class ChanceEdgesTest {
    private static final Check CHECK = new Check("ChanceEdgesTest");
    private static final Script DOC = new Script(CHECK);

    public static void main(String[] args) {
        waits();
        waitsRefused();
        doorQuiet();
        doorMean();
        doorRefused();
        yearDraws();
        yearCan();
        yearTold();
        yearRefused();
        CHECK.end();
    }

    private static void waits() {
        DOC.holds("who can not has lost: of 0 seconds",
            "waits(0, 1, 9, 0) = 0; waits(0, 9, 0, 0) = 0; waits(0, 1, 9, 1) = NONE; waits(0, 9, 5, 1) = NONE");
        DOC.holds("1 to k", "waits(2, 1, 9, 0) = 0; waits(2, 1, 9, 1) = NONE; waits(2, 2, 9, 0) = 1; waits(2, 2, 9, 1) = 2",
            "waits(3, 9, 9, 1) = 3; waits(8, 9, 9, 1) = 8");
        DOC.holds("no more than are left", "waits(1, 9, 9, 0) = 1; waits(1, 9, 9, 1) = 1; waits(8, 9, 9, 1) = 8");
        DOC.holds("but never so that as many are left as end in a told digit",
            "waits(1, 1, 0, 0) = 0; waits(1, 1, 1, 0) = 1; waits(1, 9, 0, 1) = NONE; waits(11, 1, 0, 0) = 0",
            "waits(11, 1, 0, 1) = NONE",
            "waits(2, 9, 0, 1) = 1; waits(10, 1, 9, 0) = 0; waits(10, 2, 9, 1) = NONE; waits(10, 9, 1, 1) = NONE");
        DOC.holds("the last digit alone: 10, 20 and 0 end in 0",
            "waits(10, 2, 0, 0) = 0; waits(11, 2, 0, 0) = 0; waits(12, 2, 0, 1) = 1; waits(13, 2, 0, 1) = 2",
            "waits(13, 2, 0, 0) = 1");
        DOC.holds("n seconds (0 to 99)",
            "waits(99, 1, 9, 0) = 1; waits(99, 1, 9, 1) = 1; waits(98, 1, 9, 0) = 0; waits(98, 1, 9, 1) = NONE",
            "waits(99, 9, 0, 1) = 8; waits(0, 9, 9, 0) = 0");
        DOC.holds("a short game behind a long one",
            "waits(99, 9, 0, 1) = 8; waits(1, 1, 1, 1) = 1; waits(0, 1, 0, 1) = NONE; waits(99, 9, 0, 1) = 8",
            "waits(99, 1, 9, 1) = 1");
    }

    private static void waitsRefused() {
        DOC.holds("23: OUTSIDE: n (0 to 99)",
            "waits(-1, 1, 0, 0) = OUTSIDE; waits(100, 1, 0, 0) = OUTSIDE; waits(LOW, 1, 0, 1) = OUTSIDE",
            "waits(HIGH, 1, 0, 1) = OUTSIDE");
        DOC.holds("23: OUTSIDE: k (1 to 9)",
            "waits(5, 0, 0, 0) = OUTSIDE; waits(5, 10, 0, 0) = OUTSIDE; waits(5, LOW, 0, 1) = OUTSIDE",
            "waits(5, HIGH, 0, 1) = OUTSIDE; waits(0, 0, 0, 0) = OUTSIDE");
        DOC.holds("23: OUTSIDE: a digit",
            "waits(5, 5, -1, 0) = OUTSIDE; waits(5, 5, 10, 0) = OUTSIDE; waits(5, 5, LOW, 1) = OUTSIDE",
            "waits(5, 5, HIGH, 1) = OUTSIDE");
        DOC.holds("23: OUTSIDE: what", "waits(5, 5, 5, -1) = OUTSIDE; waits(5, 5, 5, 2) = OUTSIDE; waits(0, 1, 0, LOW) = OUTSIDE",
            "waits(99, 9, 9, HIGH) = OUTSIDE");
    }

    private static void doorQuiet() {
        DOC.holds("t tenths (0 to 10): none bangs ever",
            "door(15, 0, 15, 0, 0) = 1; door(15, 0, 15, 0, 1) = 1; door(0, 0, 0, 0, 0) = 1; door(0, 0, 0, 0, 1) = 1");
        DOC.holds("t tenths (0 to 10): one bangs each minute",
            "door(15, 10, 0, 0, 0) = 1; door(15, 10, 0, 0, 1) = 1; door(15, 10, 1, 0, 0) = 0; door(15, 10, 1, 0, 1) = 1",
            "door(15, 10, 15, 0, 0) = 0; door(15, 10, 15, 0, 1) = 1");
        DOC.holds("k (0 to n)", "door(15, 9, 0, 0, 0) = 1; door(15, 9, 0, 0, 1) = 1; door(15, 9, 15, 0, 0) = 1",
            "door(15, 9, 15, 0, 1) = 1000000000000000; door(0, 9, 0, 0, 0) = 1; door(0, 9, 0, 0, 1) = 1");
        DOC.holds("in k of them, however many n",
            "door(1, 2, 1, 0, 0) = 4; door(1, 2, 1, 0, 1) = 5; door(15, 2, 1, 0, 0) = 4; door(15, 2, 1, 0, 1) = 5",
            "door(15, 2, 2, 0, 0) = 16; door(15, 2, 2, 0, 1) = 25");
        DOC.holds("in lowest terms",
            "door(15, 5, 15, 0, 0) = 1; door(15, 5, 15, 0, 1) = 32768; door(3, 8, 3, 0, 0) = 1; door(3, 8, 3, 0, 1) = 125",
            "door(2, 4, 2, 0, 0) = 9; door(2, 4, 2, 0, 1) = 25");
        DOC.holds("too many digits for an int",
            "door(15, 1, 15, 0, 0) = 205891132094649; door(15, 1, 15, 0, 1) = 1000000000000000");
    }

    private static void doorMean() {
        DOC.holds("n, if none bangs",
            "door(15, 0, 0, 1, 0) = 15; door(15, 0, 0, 1, 1) = 1; door(1, 0, 0, 1, 0) = 1; door(1, 0, 1, 1, 1) = 1");
        DOC.holds("none goes by ahead of it",
            "door(15, 10, 0, 1, 0) = 0; door(15, 10, 0, 1, 1) = 1; door(0, 10, 0, 1, 0) = 0; door(0, 10, 0, 1, 1) = 1");
        DOC.holds("n minutes (0 to 15)",
            "door(0, 5, 0, 1, 0) = 0; door(0, 5, 0, 1, 1) = 1; door(1, 5, 0, 1, 0) = 1; door(1, 5, 0, 1, 1) = 2",
            "door(15, 5, 0, 1, 0) = 32767; door(15, 5, 0, 1, 1) = 32768",
            "door(15, 9, 0, 1, 0) = 111111111111111; door(15, 9, 0, 1, 1) = 1000000000000000; door(2, 2, 0, 1, 0) = 36",
            "door(2, 2, 0, 1, 1) = 25");
        DOC.holds("k is no matter",
            "door(5, 5, 0, 1, 0) = 31; door(5, 5, 3, 1, 0) = 31; door(5, 5, 5, 1, 0) = 31; door(5, 5, 5, 1, 1) = 32");
        DOC.holds("but as told", "door(5, 5, 6, 1, 0) = GONE and OUTSIDE; door(5, 5, -1, 1, 0) = GONE and OUTSIDE",
            "door(0, 5, 1, 1, 1) = GONE and OUTSIDE");
    }

    private static void doorRefused() {
        DOC.holds("refused with GONE and the refusal",
            "door(16, 5, 0, 0, 0) = -1000000000000000002; door(16, 5, 0, 0, 1) = -1000000000000000002");
        DOC.holds("24: OUTSIDE: n (0 to 15)", "door(-1, 5, 0, 0, 0) = GONE and OUTSIDE; door(16, 5, 0, 1, 0) = GONE and OUTSIDE",
            "door(-1, 5, -1, 0, 0) = GONE and OUTSIDE; door(LOW, 5, LOW, 0, 0) = GONE and OUTSIDE",
            "door(HIGH, 5, 5, 1, 0) = GONE and OUTSIDE");
        DOC.holds("24: OUTSIDE: t (0 to 10)", "door(5, -1, 0, 0, 0) = GONE and OUTSIDE; door(5, 11, 0, 1, 0) = GONE and OUTSIDE",
            "door(5, LOW, 0, 0, 0) = GONE and OUTSIDE; door(5, HIGH, 0, 1, 1) = GONE and OUTSIDE");
        DOC.holds("24: OUTSIDE: k (0 to n)", "door(5, 5, 6, 0, 0) = GONE and OUTSIDE; door(5, 5, -1, 0, 1) = GONE and OUTSIDE",
            "door(0, 5, 1, 0, 0) = GONE and OUTSIDE; door(15, 5, 16, 0, 0) = GONE and OUTSIDE",
            "door(5, 5, HIGH, 0, 0) = GONE and OUTSIDE");
        DOC.holds("24: OUTSIDE: what, part", "door(5, 5, 5, -1, 0) = GONE and OUTSIDE; door(5, 5, 5, 2, 0) = GONE and OUTSIDE",
            "door(5, 5, 5, 0, -1) = GONE and OUTSIDE; door(5, 5, 5, 1, 2) = GONE and OUTSIDE",
            "door(0, 0, 0, HIGH, LOW) = GONE and OUTSIDE");
    }

    /** The first draws of these seeds: 75 times the seed and 74, left over by 65537. */
    private static void yearDraws() {
        DOC.holds("0, 1, 2 it lends to KIN z left over by 8",
            "year(162, 1, 1) = 0; tie(0, 7, true); year(162, 1, 1) = 7; year(442, 1, 1) = 7; year(210, 1, 1) = 7");
        DOC.holds("a seed of 0", "pause(2); year(0, 1, 1) = 2; tie(1, 2, true); year(0, 1, 1) = 1; pause(3); year(0, 1, 1) = 3");
        DOC.holds("left over by 65537",
            "tie(2, 7, true); tie(4, 0, true); pause(2); year(872, 1, 1) = 7; pause(4); year(873, 1, 1) = 0");
        DOC.holds("3, 4 it says letter z left over by 10 (a is 0)",
            "year(3574, 1, 0) = 30; year(2, 1, 0) = 30; year(1776, 1, 0) = 0; year(42, 1, 0) = 0; kin(0, 50, 29, 1)",
            "year(42, 1, 0) = 29; year(2, 1, 0) = 0", "kin(0, 50, 28, 512); year(2731, 1, 0) = 28; year(42, 1, 0) = 0");
        DOC.holds("5 it rests",
            "kin(0, 50, 0, 1023); year(5740, 1, 0) = 0; year(5740, 2, 0) = 20; kin(0, 50, 78, 16); year(5740, 2, 0) = 98",
            "kin(0, 50, 79, 16); year(5740, 2, 0) = 99; kin(0, 50, 98, 16)",
            "year(5740, 2, 0) = 99; kin(0, 50, 99, 16); year(5740, 2, 0) = 99; kin(0, 50, 0, 1007); year(5740, 2, 0) = 0");
        DOC.holds("6 a door", "year(27, 1, 1) = 0; pause(3); year(27, 1, 1) = 0; kin(5, 51, 1, 1); year(27, 1, 1) = 5; pause(-1)",
            "year(27, 1, 1) = 5; year(27, 1, 0) = 0");
        DOC.holds("7 it dies, if z left over by 16 is 0",
            "year(778, 1, 2) = 7; year(778, 1, 1) = 1; year(10, 1, 2) = 8; year(10, 1, 1) = 0; tie(0, 6, true)",
            "year(778, 1, 1) = 6; pause(5); year(778, 1, 1) = 5; year(778, 1, 2) = 7");
    }

    private static void yearCan() {
        DOC.holds("each if that can be: not by who does not live", "tie(0, 7, true); kin(7, 50, 50, 8)", "pad A+",
            "done(); told(2) = 7; year(778, 1, 2) = 7; year(778, 1, 1) = 7; year(2, 1, 0) = 0; year(162, 1, 1) = 7");
        DOC.holds("each if that can be: not to who does not live", "tie(0, 7, true)", "pad H+",
            "done(); year(162, 1, 1) = 0; year(162, 1, 2) = 7");
        DOC.holds("each if that can be: not without the PAUSE",
            "tie(0, 7, true); pause(3); year(162, 1, 1) = 3; pause(-1); year(162, 1, 1) = NONE; year(2, 1, 0) = 0",
            "year(778, 1, 1) = NONE; year(778, 1, 2) = 7");
        DOC.holds("each if that can be: no rest at 99", "kin(0, 50, 99, 1023); year(5740, 1, 0) = 0; year(5740, 2, 0) = 99");
        DOC.holds("each if that can be: nobody lives", "pad A+B+C+D+E+F+G+H+",
            "done(); year(27, 1, 1) = NONE; year(5, 99, 0) = 0; year(5, 99, 1) = NONE; year(5, 99, 2) = 0");
    }

    private static void yearTold() {
        DOC.holds("from all as it is: SAVED in all", "pad A\"d\"",
            "done() = 1; year(10, 1, 0) = 30; year(2, 1, 0) = 50; told(3) = 30");
        DOC.holds("from all as it is: the PAD is no matter", "pad A+I",
            "year(2, 1, 0) = 30; year(2, 1, 1) = 0; year(2, 1, 2) = 8; told(0) = 3; fault() = 2");
        DOC.holds("Nothing is DONE in fact",
            "tie(0, 7, true); year(778, 1, 2) = 7; year(778, 1, 2) = 7; year(162, 1, 1) = 7; year(2, 1, 0) = 30",
            "year(2, 1, 0) = 30; told(1) = 255; told(2) = 0; told(3) = 0",
            "told(101) = 30; told(10) = 128; year(26, 99, 0); told(101) = 30; behind(0, 1) = 30");
    }

    private static void yearRefused() {
        DOC.holds("25: OUTSIDE: a seed (0 to 9999)",
            "year(-1, 1, 0) = OUTSIDE; year(10000, 1, 0) = OUTSIDE; year(LOW, 1, 1) = OUTSIDE; year(HIGH, 1, 2) = OUTSIDE",
            "year(0, 1, 2) = 8; year(9999, 1, 2) = 8");
        DOC.holds("25: OUTSIDE: m ACTS (1 to 99)",
            "year(0, 0, 0) = OUTSIDE; year(0, 100, 0) = OUTSIDE; year(0, LOW, 1) = OUTSIDE; year(0, HIGH, 2) = OUTSIDE",
            "pause(-1); year(1, 1, 0) = 0; year(1, 99, 0)");
        DOC.holds("25: OUTSIDE: what",
            "year(0, 1, -1) = OUTSIDE; year(0, 1, 3) = OUTSIDE; year(0, 1, LOW) = OUTSIDE; year(9999, 99, HIGH) = OUTSIDE");
    }
}
