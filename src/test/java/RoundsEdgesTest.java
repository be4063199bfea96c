/** Promises 19 to 22, and what the terms say of SIGHTS: each sentence that names an edge, with calls of its own. */
final class RoundsEdgesTest {
    private static final Check CHECK = new Check("RoundsEdgesTest");
    private static final Script DOC = new Script(CHECK);
    private static final String EIGHT = "seen(0, 0, false); seen(0, 1, false); seen(0, 2, false); seen(0, 3, false); "
        + "seen(0, 4, false); seen(0, 5, false); seen(0, 6, false); seen(1, 7, true)";

    public static void main(String[] args) {
        seen();
        forget();
        fits();
        rounds();
        ask();
        CHECK.end();
    }

    private static void seen() {
        DOC.holds("19: how many", "seen(1, 1, true) = 1; seen(2, 2, false) = 2; told(4) = 2");
        DOC.holds("SIGHTS, 8 at most", EIGHT,
            "told(4) = 8; seen(5, 5, true) = FULL; seen(1, 7, true) = FULL; told(4) = 8; fits(-1) = 35");
        DOC.holds("the same SIGHT again is one more",
            "seen(3, 4, true) = 1; fits(-1) = 42; seen(3, 4, true) = 2; fits(-1) = 42; seen(3, 4, false) = 3; fits(-1) = 0");
        DOC.holds("at minute i (0 to 60)",
            "seen(0, 0, true) = 1; seen(60, 0, true) = 2; seen(-1, 0, true) = OUTSIDE; seen(61, 0, true) = OUTSIDE",
            "seen(LOW, 0, true) = OUTSIDE; seen(HIGH, 0, false) = OUTSIDE; told(4) = 2");
        DOC.holds("19: UNKNOWN: the KIN", "seen(0, -1, true) = UNKNOWN; seen(0, 8, false) = UNKNOWN; seen(0, LOW, true) = UNKNOWN",
            "seen(0, HIGH, true) = UNKNOWN; told(4) = 0; seen(0, 7, true) = 1");
        DOC.holds("19: UNKNOWN: the KIN; OUTSIDE: the minute; FULL", "seen(61, 8, true) = UNKNOWN", EIGHT,
            "seen(61, 8, true) = UNKNOWN; seen(0, 8, true) = UNKNOWN; seen(61, 0, true) = OUTSIDE; seen(-1, 7, true) = OUTSIDE",
            "seen(60, 0, true) = FULL");
        DOC.holds("a KIN who does not live may be seen", "pad C+", "done(); seen(0, 2, true) = 1; fits(-1) = 42; fits(0) = 211");
    }

    private static void forget() {
        DOC.holds("20: how many there were",
            "forget() = 0; seen(0, 0, true); forget() = 1; forget() = 0; told(4) = 0; fits(-1) = 336");
        DOC.holds("20: of 8", EIGHT,
            "forget() = 8; told(4) = 0; fits(-1) = 336; ask(1) = 294; seen(0, 7, true) = 1; fits(-1) = 42");
        DOC.holds("20: SIGHTS alone go", "task(0, 1, 2, 3); pause(3)", "pad A=",
            "seen(0, 0, true); forget() = 1; told(0) = 2; told(2) = 3; told(22) = 3");
    }

    private static void fits() {
        DOC.holds("how many (i = -1)",
            "fits(-1) = 336; seen(0, 0, true); fits(-1) = 42; seen(1, 0, true); fits(-1) = 35; seen(1, 0, false); fits(-1) = 0");
        DOC.holds("the i-th (rising)",
            "fits(0) = 11; fits(1) = 12; fits(5) = 16; fits(6) = 21; fits(41) = 76; fits(42) = 111; fits(335) = 776");
        DOC.holds("the i-th of what is left",
            "seen(0, 3, true); fits(0) = 311; fits(41) = 376; fits(42) = NONE; seen(1, 3, true); fits(0) = 312; fits(34) = 376",
            "fits(35) = NONE");
        DOC.holds("21: NONE",
            "fits(336) = NONE; fits(HIGH) = NONE; seen(0, 0, true); seen(0, 0, false); fits(0) = NONE; fits(1) = NONE",
            "fits(-1) = 0");
        DOC.holds("NONE (i below -1, too)",
            "fits(-2) = NONE; fits(-6) = NONE; fits(LOW) = NONE; fits(-1) = 336; seen(0, 0, true); fits(-2) = NONE",
            "fits(LOW) = NONE");
        DOC.holds("of all KIN, whether they live or not", "pad A+B+C+D+E+F+G+H+",
            "done(); fits(-1) = 336; fits(0) = 11; ask(0) = 0; ask(1) = 294");
    }

    private static void rounds() {
        DOC.holds("f and s times (i by p, cut), left over by 8",
            "seen(0, 7, true); seen(1, 6, true); fits(-1) = 1; fits(0) = 771; seen(60, 3, true); fits(-1) = 1",
            "seen(60, 3, false); fits(-1) = 0");
        DOC.holds("cut", "seen(0, 7, true); seen(5, 7, true); seen(6, 6, true); fits(-1) = 1; fits(0) = 776; seen(11, 6, true)",
            "seen(12, 5, true); seen(60, 5, true); fits(-1) = 1; fits(0) = 776");
        DOC.holds("who has it is silent, and nobody else",
            "seen(0, 0, false); fits(-1) = 294; fits(0) = 111; fits(293) = 776; seen(0, 7, false); fits(-1) = 252",
            "fits(251) = 676");
        DOC.holds("from some KIN f on: minute 0 is with f", "seen(0, 5, true); fits(0) = 511; fits(41) = 576; fits(42) = NONE");
        DOC.holds("by s KIN (1 to 7) each p minutes (1 to 6)",
            "seen(0, 0, true); seen(1, 1, true); fits(-1) = 1; fits(0) = 11; forget(); seen(0, 0, true); seen(1, 7, true)",
            "fits(-1) = 1; fits(0) = 71",
            "forget(); seen(0, 0, true); seen(5, 0, true); seen(6, 1, true); fits(-1) = 1; fits(0) = 16");
    }

    private static void ask() {
        DOC.holds("22: OUTSIDE",
            "ask(-1) = OUTSIDE; ask(2) = OUTSIDE; ask(LOW) = OUTSIDE; ask(HIGH) = OUTSIDE; seen(0, 0, true); seen(0, 0, false)",
            "ask(2) = OUTSIDE; ask(-1) = OUTSIDE");
        DOC.holds("22: NONE: nothing fits",
            "seen(0, 0, true); seen(0, 0, false); ask(0) = NONE; ask(1) = NONE; forget(); ask(0) = 0");
        DOC.holds("the least",
            "ask(0) = 0; ask(1) = 294; seen(0, 7, true); seen(1, 6, true); fits(-1) = 1; ask(0) = 0; ask(1) = 1");
        DOC.holds("silent or not",
            "seen(0, 0, false); seen(5, 3, true); ask(0) = 213; ask(1) = 21; fits(-1) = 38; seen(21, 3, true); fits(-1) = 17",
            "forget()", "seen(0, 0, false); seen(5, 3, true); seen(21, 3, false); fits(-1) = 21");
        DOC.holds("minutes 0 to 60: 60 too",
            "seen(56, 6, false); seen(9, 0, false); seen(41, 0, false); seen(26, 7, false); seen(29, 7, true); ask(0) = 607");
        DOC.holds("minutes 0 to 60: not 61, where it were 14",
            "seen(26, 2, false); seen(28, 2, true); fits(-1) = 27; ask(0) = 52; ask(1) = 16");
        DOC.holds("asking is not seeing", "ask(0); ask(1); told(4) = 0; fits(-1) = 336; ask(0) = 0");
    }
}
