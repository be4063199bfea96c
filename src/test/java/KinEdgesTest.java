/** Promises 1 to 8, and the terms that they lean on: each sentence that names an edge, with calls of its own. */
final class KinEdgesTest {
    private static final Check CHECK = new Check("KinEdgesTest");
    private static final Script DOC = new Script(CHECK);
    private static final String EVERYBODY_DIES = "pad A+B+C+D+E+F+G+H+";

    public static void main(String[] args) {
        newObject();
        kin();
        kinAlive();
        tie();
        pause();
        task();
        say();
        wipe();
        fault();
        faultOfMore();
        CHECK.end();
    }

    private static void newObject() {
        DOC.holds("1: All live", "told(1) = 255; behind(0, 0) = 1; behind(7, 0) = 1");
        DOC.holds("1: without TIES", "told(10) = 0; told(17) = 0; lent(0, 1, 0) = NONE; tie(0, 1, false) = 0");
        DOC.holds("1: KIN 0 has the PAUSE", "told(2) = 0; trust(0) = 0; behind(0, 2) = 1; behind(1, 2) = 0");
        DOC.holds("AGE: 50 at first", "told(100) = 50; told(170) = 50; kin(7, 0, 0, 0) = 50");
        DOC.holds("BREATH: 30 at first", "told(101) = 30; told(171) = 30; behind(7, 1) = 30; holds(7, 1) = 30");
        DOC.holds("LETTERS: d alone, bit 3, at first",
            "told(102) = 8; told(172) = 8; sentences(7, 1, 1, 0) = 1; sentences(7, 1, 1, 1) = 3");
        DOC.holds("SAVED: 0 at first", "told(3) = 0; trust(1) = 0; judge(2) = 0");
        DOC.holds("TASKS: KIN 0, minute 0, WORTH 0 at first",
            "told(20) = 0; told(21) = 0; told(22) = 0; told(70) = 0; told(71) = 0; told(72) = 0", "stay(0) = 0; stay(1) = 0");
        DOC.holds("no signs, no SIGHTS, no IMAGES",
            "told(0) = 0; told(4) = 0; fits(-1) = 336; restore(0) = STATE; restore(1) = STATE");
    }

    private static void kin() {
        DOC.holds("2: which AGE it had", "kin(3, 7, 1, 1) = 50; kin(3, 0, 1, 1) = 7; kin(3, 99, 1, 1) = 0; kin(3, 50, 1, 1) = 99");
        DOC.holds("2: KIN 0 to 7",
            "kin(0, 1, 1, 1) = 50; kin(7, 1, 1, 1) = 50; kin(-1, 1, 1, 1) = UNKNOWN; kin(8, 1, 1, 1) = UNKNOWN");
        DOC.holds("AGE 0 to 99",
            "kin(0, 0, 1, 1) = 50; kin(0, 99, 1, 1) = 0; kin(0, -1, 1, 1) = OUTSIDE; kin(0, 100, 1, 1) = OUTSIDE",
            "told(100) = 99");
        DOC.holds("BREATH 0 to 99",
            "kin(0, 1, 0, 1) = 50; kin(0, 1, 99, 1) = 1; kin(0, 1, -1, 1) = OUTSIDE; kin(0, 1, 100, 1) = OUTSIDE",
            "told(101) = 99");
        DOC.holds("2: LETTERS 0 to 1023", "kin(0, 1, 1, 0) = 50; told(102) = 0; kin(0, 1, 1, 1023) = 1; kin(0, 1, 1, -1) = OUTSIDE",
            "kin(0, 1, 1, 1024) = OUTSIDE; told(102) = 1023");
        DOC.holds("LETTERS of a to j, as bits of 0 to 9", "kin(0, 50, 10, 1)", "pad A\"bj\"", "judge(2) = 0", "pad A\"a\"",
            "judge(2) = 10", "kin(0, 50, 10, 512)", "pad A\"ai\"", "judge(2) = 0", "pad A\"j\"", "judge(2) = 10");
        DOC.holds("2: UNKNOWN; OUTSIDE",
            "kin(8, 100, 100, 1024) = UNKNOWN; kin(0, 100, 100, 1024) = OUTSIDE; kin(HIGH, LOW, LOW, LOW) = UNKNOWN");
        DOC.holds("a refused kin changes nothing of what is told right", "kin(0, 100, 1, 1) = OUTSIDE; kin(0, 1, 100, 1) = OUTSIDE",
            "kin(0, 1, 1, 1024) = OUTSIDE; told(100) = 50; told(101) = 30; told(102) = 8");
    }

    private static void kinAlive() {
        DOC.holds("2: who lives then", "pad C+",
            "done() = 1; told(1) = 251; kin(2, 1, 2, 3) = 50; told(1) = 255; behind(2, 0) = 1; pause(2) = 0");
        DOC.holds("2: a refused kin lives no more", "pad C+", "done(); kin(2, 100, 1, 1) = OUTSIDE; told(1) = 251");
        DOC.holds("its TIES stay: it has them when it lives again", "tie(0, 2, true); tie(2, 4, true)", "pad C+",
            "done(); lent(0, 4, 0) = NONE", "told(12) = 17; kin(2, 1, 2, 3) = 50; told(12) = 17; lent(0, 4, 0) = 2");
        DOC.holds("who lives again has not the PAUSE", "pad A+", "done(); told(2) = 1; kin(0, 99, 99, 1023) = 50; told(2) = 1");
        DOC.holds("who lives alone again has not the PAUSE", EVERYBODY_DIES,
            "done() = 8; told(2) = NONE; kin(5, 1, 2, 3) = 50; told(1) = 32; told(2) = NONE");
        DOC.holds("who has the PAUSE keeps it", "kin(0, 0, 0, 0) = 50; told(2) = 0");
    }

    private static void tie() {
        DOC.holds("3: both ways", "tie(1, 6, true) = 1; told(11) = 64; told(16) = 2; lent(1, 6, 0) = 1; lent(6, 1, 0) = 1");
        DOC.holds("3: or none, by either way", "tie(1, 6, true) = 1; tie(6, 1, false) = 0; told(11) = 0; told(16) = 0");
        DOC.holds("3: how many there are: each once",
            "tie(1, 6, true) = 1; tie(1, 6, true) = 1; tie(6, 1, true) = 1; tie(0, 7, true) = 2",
            "tie(2, 3, false) = 2; tie(1, 6, false) = 1; tie(1, 6, false) = 1; tie(0, 7, false) = 0");
        DOC.holds("3: UNKNOWN: both",
            "tie(-1, 0, true) = UNKNOWN; tie(0, -1, true) = UNKNOWN; tie(8, 0, true) = UNKNOWN; tie(0, 8, true) = UNKNOWN",
            "tie(0, 32, true) = UNKNOWN; tie(LOW, HIGH, false) = UNKNOWN; tie(0, 7, true) = 1; tie(7, 0, true) = 1");
        DOC.holds("3: UNKNOWN: both one",
            "tie(0, 0, true) = UNKNOWN; tie(7, 7, false) = UNKNOWN; told(10) = 0; told(17) = 0; tie(0, 1, true) = 1");
        DOC.holds("3: a TIE may lead to one who does not live", "pad C+",
            "done(); tie(0, 2, true) = 1; tie(2, 5, true) = 2; told(12) = 33; tie(2, 0, false) = 1");
    }

    private static void pause() {
        DOC.holds("4: who had it", "pause(7) = 0; pause(7) = 7; pause(0) = 7; told(2) = 0");
        DOC.holds("4: -1: NONE", "pause(-1) = 0; told(2) = NONE; pause(-1) = NONE; pause(4) = NONE; told(2) = 4");
        DOC.holds("4: UNKNOWN",
            "pause(-2) = UNKNOWN; pause(8) = UNKNOWN; pause(NONE) = UNKNOWN; pause(LOW) = UNKNOWN; pause(HIGH) = UNKNOWN",
            "told(2) = 0");
        DOC.holds("4: STATE: it does not live", "pad H+",
            "done(); pause(7) = STATE; told(2) = 0; pause(8) = UNKNOWN; pause(6) = 0");
        DOC.holds("4: -1 if nobody lives", EVERYBODY_DIES,
            "done(); pause(0) = STATE; pause(-1) = NONE; pause(7) = STATE; told(2) = NONE");
        DOC.holds("4: a day not DONE does not count", "pad H+", "pause(7) = 0; told(2) = 7");
    }

    private static void task() {
        DOC.holds("5: which WORTH it had",
            "task(0, 1, 1, 99) = 0; task(0, 1, 1, 0) = 99; task(0, 1, 1, 1) = 0; task(5, 1, 1, 1) = 0");
        DOC.holds("TASKS 0 to 5", "task(5, 7, 98, 97) = 0; told(70) = 7; told(71) = 98; told(72) = 97; task(6, 0, 0, 0) = UNKNOWN",
            "task(-1, 0, 0, 0) = UNKNOWN");
        DOC.holds("5: UNKNOWN: it, the KIN",
            "task(0, 8, 0, 0) = UNKNOWN; task(0, -1, 0, 0) = UNKNOWN; task(0, 7, 1, 1) = 0; told(20) = 7");
        DOC.holds("a minute (0 to 99)",
            "task(0, 0, 99, 1) = 0; task(0, 0, 0, 1) = 1; task(0, 0, -1, 1) = OUTSIDE; task(0, 0, 100, 1) = OUTSIDE",
            "told(21) = 0");
        DOC.holds("WORTH 0 to 99",
            "task(0, 0, 1, 0) = 0; task(0, 0, 1, 99) = 0; task(0, 0, 1, -1) = OUTSIDE; task(0, 0, 1, 100) = OUTSIDE",
            "told(22) = 99");
        DOC.holds("5: UNKNOWN; OUTSIDE",
            "task(6, 0, 100, 0) = UNKNOWN; task(0, 8, 0, 100) = UNKNOWN; task(6, 8, LOW, HIGH) = UNKNOWN",
            "task(0, 0, 100, 100) = OUTSIDE");
        DOC.holds("5: with a KIN who does not live", "pad C+",
            "done(); task(0, 2, 5, 6) = 0; told(20) = 2; told(21) = 5; told(22) = 6");
        DOC.holds("a refused task changes nothing of what is told right",
            "task(1, 2, 3, 4) = 0; task(1, 5, 6, 100) = OUTSIDE; task(1, 5, 100, 7) = OUTSIDE",
            "task(1, 8, 6, 7) = UNKNOWN; told(30) = 2; told(31) = 3; told(32) = 4");
    }

    private static void say() {
        DOC.holds("6: how many", "say(65) = 1; say(61) = 2; say(126) = 3; told(0) = 3");
        DOC.holds("codes 33 to 126",
            "say(33) = 1; say(126) = 2; say(32) = OUTSIDE; say(127) = OUTSIDE; say(0) = OUTSIDE; say(-1) = OUTSIDE",
            "say(LOW) = OUTSIDE", "say(HIGH) = OUTSIDE; say(321) = OUTSIDE; say(65601) = OUTSIDE; told(0) = 2");
        DOC.holds("up to 60 signs", "pad " + "!".repeat(59),
            "say(90) = 60; say(90) = FULL; say(33) = FULL; told(0) = 60; fault() = 59");
        DOC.holds("6: OUTSIDE; FULL", "pad " + "!".repeat(60),
            "say(32) = OUTSIDE; say(127) = OUTSIDE; say(33) = FULL; say(126) = FULL; told(0) = 60");
        DOC.holds("a sign that is said changes what fault() tells",
            "fault() = NONE; say(65) = 1; fault() = 1; say(61) = 2; fault() = NONE; say(73) = 3; fault() = 2");
        DOC.holds("a sign that is refused does not",
            "say(65); say(127) = OUTSIDE; fault() = 1; say(32) = OUTSIDE; fault() = 1; say(61) = 2; fault() = NONE");
    }

    private static void wipe() {
        DOC.holds("7: how many there were", "wipe() = 0", "say(65) = 1; wipe() = 1; wipe() = 0; told(0) = 0; fault() = NONE");
        DOC.holds("7: of a full PAD", "pad " + "~".repeat(60), "wipe() = 60; told(0) = 0; say(33) = 1; fault() = NONE");
        DOC.holds("7: the text that is gone is gone", "pad A\"ddd\"",
            "judge(2) = 60; wipe() = 6; judge(2) = 0; say(65); say(34); fault() = 2; done() = NO");
        DOC.holds("7: signs alone go", "tie(0, 1, true); task(0, 1, 2, 3); seen(1, 1, true); pause(1); image(0)", "pad !",
            "wipe() = 1", "told(10) = 2; told(22) = 3; told(4) = 1; told(2) = 1; restore(0) = 1");
    }

    private static void fault() {
        DOC.holds("an empty PAD has no FAULT: no ACTS",
            "fault() = NONE; judge(0) = NONE; judge(1) = NONE; judge(2) = 0; first(0) = NONE; done() = 0");
        DOC.holds("8: NONE", "pad A>B", "fault() = NONE", "pad A>A", "fault() = NONE", "pad A\"a\"", "fault() = NONE",
            "pad H\"jjjj\"", "fault() = NONE", "pad A=", "fault() = NONE", "pad H+", "fault() = NONE", "pad !", "fault() = NONE",
            "pad !!A=!", "fault() = NONE");
        DOC.holds("the place (from 0 on) of the first sign that can not stand there", "pad Z", "fault() = 0", "pad =A",
            "fault() = 0", "pad AA", "fault() = 1", "pad A>a", "fault() = 2", "pad A\"A", "fault() = 2", "pad A\"aA", "fault() = 3",
            "pad A=A=+A", "fault() = 4", "pad !?!", "fault() = 1");
        DOC.holds("a KIN's letter A to H", "pad A=", "fault() = NONE", "pad H=", "fault() = NONE", "pad @=", "fault() = 0",
            "pad I=", "fault() = 0", "pad a=", "fault() = 0", "pad h=", "fault() = 0");
        DOC.holds("> and a KIN's letter", "pad A>H", "fault() = NONE", "pad A>I", "fault() = 2", "pad A>@", "fault() = 2",
            "pad A>!", "fault() = 2", "pad A>>", "fault() = 2");
        DOC.holds("small letters a to j", "pad A\"aj\"", "fault() = NONE", "pad A\"k\"", "fault() = 2", "pad A\"ak\"",
            "fault() = 3", "pad A\"`\"", "fault() = 2", "pad A\"D\"", "fault() = 2");
        DOC.holds("one or more", "pad A\"\"", "fault() = 2", "pad A\"a\"", "fault() = NONE", "pad A\"" + "a".repeat(57) + "\"",
            "fault() = NONE");
        DOC.holds("! stands alone", "pad A!", "fault() = 1", "pad !=", "fault() = 1", "pad !+", "fault() = 1", "pad !>B",
            "fault() = 1", "pad !!", "fault() = NONE");
        DOC.holds("= and + end the ACT", "pad A==", "fault() = 2", "pad A++", "fault() = 2", "pad A=>B", "fault() = 2",
            "pad A+\"a\"", "fault() = 2");
        DOC.holds("a FAULT stays where it is, whatever comes behind", "pad AI",
            "fault() = 1; say(62); fault() = 1; say(66); fault() = 1; say(107); fault() = 1");
        DOC.holds("an ACT that can not be is no FAULT", "pad B>CC>B", "fault() = NONE; judge(0) = 0; done() = STATE");
    }

    private static void faultOfMore() {
        DOC.holds("or the number of signs, if more must come", "pad A", "fault() = 1", "pad A>", "fault() = 2", "pad A\"",
            "fault() = 2", "pad A\"a", "fault() = 3", "pad A\"abc", "fault() = 5", "pad !A", "fault() = 2", "pad A=B",
            "fault() = 3", "pad A>BB\"d\"H>", "fault() = 9");
        DOC.holds("of a full PAD the number of signs is 60", "pad " + "A=".repeat(29) + "!A", "fault() = 60; done() = NO",
            "pad A\"" + "a".repeat(58), "fault() = 60", "pad " + "A=".repeat(29) + "A>", "fault() = 60",
            "pad " + "A=".repeat(29) + "A=", "fault() = NONE", "pad A\"" + "a".repeat(57) + "\"", "fault() = NONE");
        DOC.holds("the last sign of a full PAD", "pad " + "!".repeat(59) + "I", "fault() = 59", "pad " + "!".repeat(58) + "AA",
            "fault() = 59");
    }
}
