/** Promises 16 to 18, and the terms that they lean on: each sentence that names an edge, with calls of its own. */
final class LendingEdgesTest {
    private static final Check CHECK = new Check("LendingEdgesTest");
    private static final Script DOC = new Script(CHECK);
    private static final String CHAIN = "tie(0, 1, true); tie(1, 2, true); tie(2, 3, true); tie(3, 4, true); tie(4, 5, true); "
        + "tie(5, 6, true); tie(6, 7, true)";

    public static void main(String[] args) {
        lent();
        lentRefused();
        tasksServed();
        tasksLeft();
        fewest();
        stayOfNone();
        sentences();
        sentencesCounted();
        firstSentence();
        sentencesRefused();
        CHECK.end();
    }

    private static void lent() {
        DOC.holds("0: it is that", "lent(0, 0, 0) = 0; lent(7, 7, 0) = 0; tie(7, 6, true); lent(7, 7, 0) = 0");
        DOC.holds("NONE: 0", "lent(0, 0, 1) = NONE; lent(7, 7, 1) = NONE; tie(7, 6, true); lent(7, 7, 1) = NONE");
        DOC.holds("16: NONE", "lent(0, 7, 0) = NONE; lent(0, 7, 1) = NONE; tie(0, 1, true); tie(6, 7, true); lent(0, 7, 0) = NONE",
            "lent(0, 7, 1) = NONE");
        DOC.holds("by the fewest TIES", CHAIN,
            "lent(0, 7, 0) = 7; lent(7, 0, 0) = 7; lent(0, 6, 0) = 6; tie(0, 7, true); lent(0, 7, 0) = 1; lent(0, 4, 0) = 4",
            "lent(0, 5, 0) = 3");
        DOC.holds("to whom first", CHAIN, "lent(0, 7, 1) = 1; lent(7, 0, 1) = 6; lent(3, 4, 1) = 4; lent(4, 3, 1) = 3");
        DOC.holds("the least on such a way", CHAIN,
            "tie(0, 7, true); lent(0, 4, 1) = 1; lent(4, 0, 1) = 3; lent(2, 6, 1) = 1; lent(6, 2, 1) = 5; lent(7, 3, 1) = 0");
        DOC.holds("not the least of all, whose way is longer",
            "tie(0, 1, true); tie(1, 2, true); tie(2, 7, true); tie(0, 5, true); tie(5, 7, true); lent(0, 7, 0) = 2",
            "lent(0, 7, 1) = 5");
        DOC.holds("of those who live", "tie(0, 1, true); tie(1, 7, true); tie(0, 6, true); tie(6, 5, true); tie(5, 7, true)",
            "pad B+", "lent(0, 7, 0) = 2; lent(0, 7, 1) = 1",
            "done(); lent(0, 7, 0) = 3; lent(0, 7, 1) = 6; kin(1, 1, 1, 1); lent(0, 7, 0) = 2");
        DOC.holds("whoever has the PAUSE",
            "tie(3, 4, true); lent(3, 4, 0) = 1; pause(-1); lent(3, 4, 0) = 1; pause(4); lent(3, 4, 1) = 4");
    }

    private static void lentRefused() {
        DOC.holds("16: UNKNOWN: both",
            "lent(-1, 0, 0) = UNKNOWN; lent(8, 0, 0) = UNKNOWN; lent(0, -1, 1) = UNKNOWN; lent(0, 8, 1) = UNKNOWN",
            "lent(LOW, HIGH, 0) = UNKNOWN");
        DOC.holds("16: OUTSIDE",
            "lent(0, 0, -1) = OUTSIDE; lent(0, 0, 2) = OUTSIDE; lent(7, 7, LOW) = OUTSIDE; lent(0, 7, HIGH) = OUTSIDE");
        DOC.holds("16: STATE: one of both does not live", "tie(0, 1, true)", "pad B+",
            "done(); lent(0, 1, 0) = STATE; lent(1, 0, 0) = STATE; lent(1, 1, 0) = STATE",
            "lent(0, 1, 1) = STATE; lent(1, 0, 1) = STATE; lent(1, 1, 1) = STATE; kin(1, 1, 1, 1); lent(1, 1, 0) = 0",
            "lent(0, 1, 1) = 1");
        DOC.holds("16: UNKNOWN; OUTSIDE; STATE", "pad B+",
            "done(); lent(8, 1, 2) = UNKNOWN; lent(1, 8, 2) = UNKNOWN; lent(1, 8, 0) = UNKNOWN; lent(1, 1, 2) = OUTSIDE",
            "lent(0, 1, -1) = OUTSIDE");
    }

    private static void tasksServed() {
        DOC.holds("17: of a new object", "stay(0) = 0; stay(1) = 0");
        DOC.holds("17: OUTSIDE",
            "stay(-1) = OUTSIDE; stay(2) = OUTSIDE; stay(LOW) = OUTSIDE; stay(HIGH) = OUTSIDE; pause(-1); stay(2) = OUTSIDE");
        DOC.holds("at minute 0 it is with who has it now",
            "task(0, 0, 0, 5); stay(0) = 5; stay(1) = 1; tie(0, 1, true); pause(1); stay(0) = 0; stay(1) = 0; task(0, 1, 0, 6)",
            "stay(0) = 6");
        DOC.holds("between one minute and the next it can be lent once", CHAIN,
            "task(0, 1, 0, 5); stay(0) = 0; task(0, 1, 1, 5); stay(0) = 5; task(0, 2, 1, 5); stay(0) = 0",
            "task(0, 2, 2, 5); stay(0) = 5; task(0, 7, 6, 5); stay(0) = 0; task(0, 7, 7, 5); stay(0) = 5; stay(1) = 1");
        DOC.holds("it can be lent: it may stay, too",
            "tie(0, 1, true); task(0, 0, 99, 5); task(1, 1, 98, 6); task(2, 1, 97, 7); task(3, 0, 0, 8); stay(0) = 26",
            "stay(1) = 4");
        DOC.holds("at minute 99", CHAIN,
            "task(0, 7, 99, 99); task(1, 0, 92, 98); stay(0) = 197; task(1, 0, 93, 98); stay(0) = 99; stay(1) = 1");
        DOC.holds("two at one minute with one KIN",
            "tie(0, 1, true); task(0, 1, 1, 5); task(1, 1, 1, 6); stay(0) = 11; stay(1) = 2");
        DOC.holds("two at one minute with two",
            "tie(0, 1, true); tie(0, 2, true); task(0, 1, 1, 5); task(1, 2, 1, 6); stay(0) = 6; stay(1) = 1");
        DOC.holds("there and back",
            "tie(0, 1, true); task(0, 1, 1, 5); task(1, 0, 2, 6); task(2, 1, 3, 7); stay(0) = 18; task(2, 1, 2, 7)",
            "stay(0) = 12; stay(1) = 2");
        DOC.holds("all six of the most WORTH",
            "task(0, 0, 0, 99); task(1, 0, 1, 99); task(2, 0, 2, 99); task(3, 0, 98, 99); task(4, 0, 99, 99)",
            "task(5, 0, 99, 99); stay(0) = 594; stay(1) = 6");
    }

    private static void tasksLeft() {
        DOC.holds("by a TIE",
            "task(0, 1, 99, 5); stay(0) = 0; stay(1) = 0; tie(0, 1, true); stay(0) = 5; tie(1, 0, false); stay(0) = 0");
        DOC.holds("of two who live", "tie(0, 1, true); tie(1, 2, true); task(0, 2, 50, 5); stay(0) = 5", "pad B+",
            "stay(0) = 5; done(); stay(0) = 0; stay(1) = 0",
            "tie(0, 3, true); tie(3, 4, true); tie(4, 2, true); stay(0) = 5; task(0, 2, 2, 5); stay(0) = 0; task(0, 2, 3, 5)",
            "stay(0) = 5");
        DOC.holds("the most: little early, or much late",
            "tie(0, 1, true); tie(0, 2, true); tie(2, 3, true); task(0, 1, 1, 4); task(1, 3, 2, 9); stay(0) = 9",
            "task(0, 1, 1, 10); stay(0) = 10", "task(2, 1, 2, 1); stay(0) = 11; stay(1) = 2");
        DOC.holds("all together: many small ones, or one",
            "tie(0, 1, true); task(0, 0, 5, 3); task(1, 0, 5, 3); task(2, 0, 5, 3); task(3, 1, 5, 8); stay(0) = 9; stay(1) = 3",
            "task(3, 1, 5, 10); stay(0) = 10; stay(1) = 1");
    }

    private static void fewest() {
        DOC.holds("how many these are at the fewest: WORTH 0 is left",
            "task(0, 0, 3, 0); task(1, 0, 4, 7); stay(0) = 7; stay(1) = 1; task(1, 0, 4, 0); stay(0) = 0; stay(1) = 0");
        DOC.holds("at the fewest, of as much WORTH",
            "tie(0, 1, true); task(0, 0, 5, 3); task(1, 0, 5, 6); task(2, 1, 5, 9); stay(0) = 9; stay(1) = 1; task(2, 1, 5, 8)",
            "stay(0) = 9; stay(1) = 2");
        DOC.holds("at the fewest, whichever was told first",
            "tie(0, 1, true); task(5, 0, 5, 3); task(4, 0, 5, 6); task(0, 1, 5, 9); stay(1) = 1; task(0, 0, 5, 9)",
            "task(4, 1, 5, 9); task(5, 1, 5, 9); stay(0) = 18; stay(1) = 2");
    }

    private static void stayOfNone() {
        DOC.holds("None, if NONE has it",
            "task(0, 0, 0, 5); task(1, 0, 9, 5); stay(0) = 10; pause(-1); stay(0) = 0; stay(1) = 0; pause(0); stay(0) = 10");
        DOC.holds("None, if nobody lives", "task(0, 0, 0, 5)", "pad A+B+C+D+E+F+G+H+",
            "done(); stay(0) = 0; stay(1) = 0; kin(0, 1, 1, 1); stay(0) = 0; pause(0); stay(0) = 5");
        DOC.holds("or for a KIN who does not live", "tie(0, 1, true); task(0, 1, 9, 5); task(1, 0, 10, 6); stay(0) = 11", "pad B+",
            "done(); stay(0) = 6; stay(1) = 1; kin(1, 1, 1, 1); stay(0) = 11");
        DOC.holds("for the KIN who had it and does not live", "tie(0, 1, true); task(0, 0, 0, 5); task(1, 1, 0, 6)", "pad A+",
            "done(); stay(0) = 6; stay(1) = 1");
    }

    private static void sentences() {
        DOC.holds("n (0 to 30)", "sentences(0, 0, 0, 0) = 1; sentences(0, 30, 30, 0) = 0; sentences(0, -1, 0, 0) = OUTSIDE",
            "sentences(0, 31, 0, 0) = OUTSIDE",
            "sentences(0, HIGH, 0, 0) = OUTSIDE; sentences(0, LOW, LOW, 0) = OUTSIDE; sentences(0, -1, -1, 0) = OUTSIDE",
            "sentences(0, 31, 31, 0) = OUTSIDE");
        DOC.holds("k (0 to n)",
            "sentences(0, 2, 0, 0) = 72; sentences(0, 2, 1, 0) = 18; sentences(0, 2, 2, 0) = 0; sentences(0, 2, 3, 0) = OUTSIDE",
            "sentences(0, 2, -1, 0) = OUTSIDE",
            "sentences(0, 0, 1, 0) = OUTSIDE; sentences(0, 30, 31, 0) = OUTSIDE; sentences(0, 30, HIGH, 0) = OUTSIDE",
            "sentences(0, 2, 3, 1) = OUTSIDE");
        DOC.holds("of one letter",
            "sentences(0, 1, 0, 0) = 9; sentences(0, 1, 1, 0) = 1; kin(0, 50, 30, 0); sentences(0, 1, 0, 0) = 10",
            "sentences(0, 1, 1, 0) = 0", "kin(0, 50, 30, 1023); sentences(0, 1, 0, 0) = 0; sentences(0, 1, 1, 0) = 10");
        DOC.holds("of a KIN's LETTERS, whoever has the PAUSE",
            "kin(7, 50, 30, 7); sentences(7, 1, 1, 0) = 3; sentences(0, 1, 1, 0) = 1; pause(7); sentences(0, 1, 1, 0) = 1",
            "pause(-1); sentences(7, 1, 1, 0) = 3");
        DOC.holds("of a KIN who does not live", "kin(7, 50, 30, 7)", "pad H+",
            "done(); sentences(7, 1, 1, 0) = 3; sentences(7, 1, 1, 1) = 0; sentences(7, 1, 0, 1) = 3");
    }

    private static void sentencesCounted() {
        DOC.holds("none beside itself",
            "kin(0, 50, 30, 1); sentences(0, 2, 2, 0) = 0; sentences(0, 3, 2, 0) = 9; sentences(0, 30, 15, 1) = OUTSIDE",
            "kin(0, 50, 30, 3); sentences(0, 2, 2, 0) = 2; sentences(0, 30, 30, 0) = 2; kin(0, 50, 30, 1022)",
            "sentences(0, 2, 0, 0) = 0; sentences(0, 3, 1, 0) = 9; sentences(0, 30, 14, 0) = 0",
            "kin(0, 50, 30, 1020); sentences(0, 2, 0, 0) = 2; sentences(0, 30, 0, 0) = 2");
        DOC.holds("left over by 1000007",
            "kin(0, 50, 30, 0); sentences(0, 6, 0, 0) = 590490; sentences(0, 7, 0, 0) = " + 10 * 531441 % 1000007,
            "kin(0, 50, 30, 1023); sentences(0, 6, 6, 0) = 590490; sentences(0, 7, 7, 0) = " + 10 * 531441 % 1000007);
        DOC.holds("left over by 1000007: of 30 letters",
            "sentences(0, 30, 3, 0) = 861872; sentences(0, 30, 14, 0) = 220430; sentences(0, 30, 15, 0) = 409523",
            "kin(0, 50, 30, 341)",
            "sentences(0, 30, 15, 0) = 274042; kin(0, 50, 30, 7); sentences(0, 17, 6, 0) = 487475; kin(0, 50, 30, 767)",
            "sentences(0, 30, 15, 0) = 409523");
        DOC.holds("just k times: all or none without LETTERS, or with all",
            "kin(0, 50, 30, 0); sentences(0, 9, 1, 0) = 0; sentences(0, 9, 9, 0) = 0; kin(0, 50, 30, 1023)",
            "sentences(0, 9, 0, 0) = 0; sentences(0, 9, 8, 0) = 0");
        DOC.holds("of half the letters, by five",
            "kin(0, 50, 30, 31); sentences(0, 2, 1, 0) = 50; sentences(0, 2, 0, 0) = 20; sentences(0, 2, 2, 0) = 20",
            "sentences(0, 3, 3, 0) = 80; sentences(0, 3, 2, 0) = 325; sentences(0, 3, 1, 0) = 325; sentences(0, 3, 0, 0) = 80");
    }

    private static void firstSentence() {
        DOC.holds("as n digits (a is 0)",
            "sentences(0, 1, 0, 1) = 0; sentences(0, 1, 1, 1) = 3; sentences(0, 2, 0, 1) = 1; sentences(0, 2, 1, 1) = 3",
            "sentences(0, 3, 1, 1) = 13; sentences(0, 3, 2, 1) = 303",
            "kin(0, 50, 30, 512); sentences(0, 1, 1, 1) = 9; sentences(0, 9, 5, 1) = 909090909",
            "sentences(0, 9, 0, 1) = 10101010");
        DOC.holds("the first by letters",
            "kin(0, 50, 30, 768); sentences(0, 3, 3, 1) = 898; sentences(0, 3, 2, 1) = 89; sentences(0, 3, 1, 1) = 18",
            "kin(0, 50, 30, 1022)",
            "sentences(0, 3, 2, 1) = 12; sentences(0, 3, 3, 1) = 121; sentences(0, 3, 1, 1) = 10; sentences(0, 2, 1, 1) = 1");
        DOC.holds("n 1 to 9 for it", "sentences(0, 1, 0, 1) = 0; sentences(0, 9, 0, 1) = 10101010; sentences(0, 0, 0, 1) = OUTSIDE",
            "sentences(0, 10, 0, 1) = OUTSIDE; sentences(0, 30, 0, 1) = OUTSIDE",
            "sentences(0, 0, 0, 0) = 1; sentences(0, 10, 10, 0) = 0; sentences(0, 10, 10, 1) = OUTSIDE");
        DOC.holds("18: NONE",
            "sentences(0, 2, 2, 1) = NONE; sentences(0, 9, 6, 1) = NONE; sentences(0, 9, 5, 1) = 303030303; kin(0, 50, 30, 0)",
            "sentences(0, 1, 1, 1) = NONE",
            "kin(0, 50, 30, 1023); sentences(0, 1, 0, 1) = NONE; sentences(0, 9, 8, 1) = NONE; kin(0, 50, 30, 1022)",
            "sentences(0, 2, 0, 1) = NONE; sentences(0, 9, 3, 1) = NONE; sentences(0, 9, 4, 1) = 10101010");
    }

    private static void sentencesRefused() {
        DOC.holds("18: UNKNOWN; OUTSIDE",
            "sentences(8, 31, 32, 2) = UNKNOWN; sentences(-1, 0, 0, 0) = UNKNOWN; sentences(8, 0, 0, 0) = UNKNOWN",
            "sentences(7, 31, 0, 0) = OUTSIDE",
            "sentences(0, 5, 5, 2) = OUTSIDE; sentences(0, 5, 5, -1) = OUTSIDE; sentences(0, 5, 5, HIGH) = OUTSIDE",
            "sentences(8, 10, 0, 1) = UNKNOWN");
    }
}
