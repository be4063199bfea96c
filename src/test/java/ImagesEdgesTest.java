/** Promises 26 to 28: each sentence that names an edge, with calls of its own. */
final class ImagesEdgesTest {
    private static final Check CHECK = new Check("ImagesEdgesTest");
    private static final Script DOC = new Script(CHECK);
    private static final String EIGHT = "seen(0, 0, false); seen(0, 1, false); seen(0, 2, false); seen(0, 3, false); "
        + "seen(0, 4, false); seen(0, 5, false); seen(0, 6, false); seen(1, 7, true)";
    private static final String EIGHT_OTHERS = "seen(0, 0, false); seen(0, 1, false); seen(0, 2, false); seen(0, 3, false); "
        + "seen(0, 4, false); seen(0, 5, false); seen(0, 6, false); seen(0, 7, false)";

    public static void main(String[] args) {
        image();
        allButThePad();
        sightsAndTasks();
        restore();
        told();
        toldOfKin();
        CHECK.end();
    }

    private static void image() {
        DOC.holds("26: an IMAGE (0, 1)",
            "image(0) = 1; image(1) = 1; image(-1) = OUTSIDE; image(2) = OUTSIDE; image(LOW) = OUTSIDE; image(HIGH) = OUTSIDE");
        DOC.holds("26: anew", "pause(1); image(0) = 1; pause(2); image(0) = 1; pause(3); restore(0) = 1; told(2) = 2");
        DOC.holds("a refused image keeps nothing",
            "image(2) = OUTSIDE; image(-1) = OUTSIDE; restore(0) = STATE; restore(1) = STATE");
        DOC.holds("a refused image leaves the IMAGES",
            "pause(1); image(0); pause(2); image(1); pause(3); image(2) = OUTSIDE; image(-1) = OUTSIDE; restore(0); told(2) = 1",
            "restore(1); told(2) = 2");
        DOC.holds("keeping changes nothing", "pause(1)", "pad A\"d\"",
            "image(0); told(0) = 4; told(2) = 1; told(4) = 0; judge(2) = 0; done() = 1");
    }

    private static void allButThePad() {
        DOC.holds("26: AGE, BREATH, LETTERS",
            "kin(7, 1, 2, 3); image(1); kin(7, 4, 5, 6); kin(0, 7, 8, 9); restore(1) = 1; told(170) = 1; told(171) = 2",
            "told(172) = 3; told(100) = 50; told(101) = 30; told(102) = 8");
        DOC.holds("26: who lives", "pad C+", "done(); image(0); kin(2, 1, 1, 1)", "pad B+",
            "done(); told(1) = 253; restore(0); told(1) = 251; pause(2) = STATE; pause(1) = 0");
        DOC.holds("26: TIES",
            "tie(0, 7, true); image(0); tie(0, 7, false); tie(1, 2, true); restore(0); told(10) = 128; told(17) = 1",
            "told(11) = 0; tie(3, 4, true) = 2");
        DOC.holds("26: the PAUSE",
            "pause(5); image(0); pause(6); restore(0); told(2) = 5; pause(-1); image(0); pause(6); restore(0); told(2) = NONE",
            "pause(1) = NONE");
        DOC.holds("26: SAVED", "pad A\"d\"", "done(); image(0)", "pad A\"dd\"",
            "done(); told(3) = 60; restore(0); told(3) = 30; trust(1) = 30; told(101) = 20");
        DOC.holds("26: but the PAD: it is not kept", "pad A=", "image(0); wipe() = 2; restore(0); told(0) = 0; fault() = NONE");
        DOC.holds("26: but the PAD: it is left", "image(0)", "pad A\"dd",
            "restore(0); told(0) = 4; fault() = 4; say(34) = 5; judge(2) = 50");
        DOC.holds("26: but the PAD: a full one stays full", "image(0)", "pad " + "!".repeat(60),
            "restore(0); told(0) = 60; say(33) = FULL; wipe() = 60");
    }

    private static void sightsAndTasks() {
        DOC.holds("26: TASKS, the first and the last",
            "task(0, 1, 2, 3); task(5, 7, 98, 97); image(0); task(0, 4, 5, 6); task(5, 4, 5, 6); restore(0); told(20) = 1",
            "told(21) = 2; told(22) = 3; told(70) = 7; told(71) = 98; told(72) = 97", "task(5, 0, 0, 0) = 97");
        DOC.holds("26: TASKS as at first",
            "image(0); task(0, 4, 5, 6); task(5, 4, 5, 6); restore(0); told(20) = 0; told(21) = 0; told(22) = 0; told(70) = 0",
            "told(71) = 0; told(72) = 0");
        DOC.holds("26: SIGHTS, all eight", EIGHT, "fits(-1) = 35; image(0); forget()", EIGHT_OTHERS,
            "fits(-1) = 0; restore(0); told(4) = 8; fits(-1) = 35; seen(0, 0, true) = FULL; forget() = 8");
        DOC.holds("26: no SIGHTS", "image(0)", EIGHT_OTHERS,
            "restore(0); told(4) = 0; fits(-1) = 336; seen(0, 0, true) = 1; fits(-1) = 42");
        DOC.holds("26: fewer SIGHTS",
            "seen(0, 3, true); image(1); seen(1, 3, true); seen(2, 2, true); fits(-1); restore(1); told(4) = 1; fits(-1) = 42",
            "ask(1); seen(1, 3, true) = 2; fits(-1) = 35");
    }

    private static void restore() {
        DOC.holds("27: OUTSIDE",
            "image(0); image(1); restore(-1) = OUTSIDE; restore(2) = OUTSIDE; restore(LOW) = OUTSIDE; restore(HIGH) = OUTSIDE");
        DOC.holds("27: STATE: it was not",
            "restore(0) = STATE; restore(1) = STATE; image(0); restore(1) = STATE; restore(0) = 1; image(1); restore(1) = 1");
        DOC.holds("27: STATE: it was not: the other one", "image(1); restore(0) = STATE; restore(1) = 1");
        DOC.holds("27: OUTSIDE; STATE", "restore(2) = OUTSIDE; restore(-1) = OUTSIDE; restore(0) = STATE");
        DOC.holds("a refused restore changes nothing",
            "pause(1); image(0); pause(2); restore(1) = STATE; restore(2) = OUTSIDE; told(2) = 2");
        DOC.holds("27: as it was when it was kept, as often as it is asked for",
            "pause(1); image(0); pause(2); restore(0); told(2) = 1; pause(3); restore(0); told(2) = 1; restore(0); told(2) = 1");
        DOC.holds("27: what is done behind it does not change the IMAGE",
            "tie(0, 1, true); seen(0, 3, true); image(0); restore(0); tie(0, 2, true); kin(0, 1, 1, 1); seen(1, 1, true)",
            "task(3, 3, 3, 3)", "pad B+",
            "done(); restore(0); told(10) = 2; told(100) = 50; told(4) = 1; told(52) = 0; told(1) = 255");
        DOC.holds("27: two IMAGES, each its own",
            "pause(1); image(0); pause(2); image(1); pause(3); restore(0); told(2) = 1; restore(1); told(2) = 2; restore(0)",
            "told(2) = 1; image(1); restore(1); told(2) = 1");
    }

    private static void told() {
        DOC.holds("28: 0 signs", "told(0) = 0", "pad A\"d\"", "told(0) = 4", "pad " + "~".repeat(60),
            "told(0) = 60; wipe(); told(0) = 0");
        DOC.holds("28: 1 who live (bits)", "told(1) = 255", "pad A+", "told(1) = 255; done(); told(1) = 254", "pad B+C+D+E+F+G+H+",
            "done(); told(1) = 0; kin(7, 1, 1, 1); told(1) = 128");
        DOC.holds("28: 2 who has the PAUSE (NONE)", "told(2) = 0; pause(7); told(2) = 7; pause(-1); told(2) = NONE");
        DOC.holds("28: 3 SAVED", "pad A\"dd\"", "told(3) = 0; done(); told(3) = 50");
        DOC.holds("28: 4 SIGHTS", "told(4) = 0; seen(1, 1, true); told(4) = 1; forget(); told(4) = 0", EIGHT, "told(4) = 8");
        DOC.holds("28: 10 and a KIN: TIES (bits)",
            "tie(0, 7, true); tie(7, 3, true); told(10) = 128; told(13) = 128; told(17) = 9; told(9) = OUTSIDE",
            "told(18) = OUTSIDE; told(19) = OUTSIDE");
        DOC.holds("28: 20 and 10 times a TASK",
            "task(0, 1, 2, 3); task(5, 4, 5, 6); told(20) = 1; told(21) = 2; told(22) = 3; told(23) = OUTSIDE",
            "told(29) = OUTSIDE; told(69) = OUTSIDE",
            "told(70) = 4; told(71) = 5; told(72) = 6; told(73) = OUTSIDE; told(79) = OUTSIDE; told(80) = OUTSIDE",
            "told(82) = OUTSIDE; told(99) = OUTSIDE");
        DOC.holds("28: OUTSIDE",
            "told(-1) = OUTSIDE; told(5) = OUTSIDE; told(6) = OUTSIDE; told(LOW) = OUTSIDE; told(HIGH) = OUTSIDE",
            "told(1000) = OUTSIDE; told(-10) = OUTSIDE; told(-100) = OUTSIDE");
    }

    private static void toldOfKin() {
        DOC.holds("28: 100 and 10 times a KIN",
            "kin(0, 1, 2, 3); kin(7, 4, 5, 6); told(100) = 1; told(101) = 2; told(102) = 3; told(103) = OUTSIDE",
            "told(109) = OUTSIDE; told(169) = OUTSIDE",
            "told(170) = 4; told(171) = 5; told(172) = 6; told(173) = OUTSIDE; told(179) = OUTSIDE; told(180) = OUTSIDE",
            "told(182) = OUTSIDE; told(190) = OUTSIDE");
        DOC.holds("28: of a KIN who does not live", "kin(2, 71, 72, 73); tie(2, 3, true)", "pad C+",
            "done(); told(120) = 71; told(121) = 72; told(122) = 73; told(12) = 8; told(13) = 4");
    }
}
