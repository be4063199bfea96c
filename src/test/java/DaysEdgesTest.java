/** Promises 9 to 15, and what the terms say of ACTS: each sentence that names an edge, with calls of its own. */
final class DaysEdgesTest {
    private static final Check CHECK = new Check("DaysEdgesTest");
    private static final Script DOC = new Script(CHECK);
    private static final String EVERYBODY_DIES = "pad A+B+C+D+E+F+G+H+";

    public static void main(String[] args) {
        lends();
        says();
        rests();
        dies();
        doors();
        whichReason();
        whichAct();
        judge();
        behind();
        trust();
        first();
        done();
        holds();
        oldest();
        CHECK.end();
    }

    private static void lends() {
        DOC.holds("lends the PAUSE to that one, by a TIE", "tie(0, 7, true)", "pad A>H",
            "trust(0) = 7; behind(0, 2) = 0; behind(7, 2) = 1; told(2) = 0", "pad A>HH>A", "trust(0) = 0");
        DOC.holds("by a TIE of either end", "tie(7, 0, true)", "pad A>HH>A", "judge(0) = NONE; trust(0) = 0");
        DOC.holds("a TIE that is none any more", "tie(0, 7, true); tie(7, 0, false)", "pad A>H", "judge(0) = 0; judge(1) = 3");
    }

    private static void says() {
        DOC.holds("each letter of its LETTERS as many seconds as it has BREATH", "pad A\"d\"", "judge(2) = 30",
            "pad A\"abcefghij\"", "judge(2) = 0; behind(0, 1) = 30", "pad A\"jda\"", "judge(2) = 30; behind(0, 1) = 20");
        DOC.holds("BREATH is 10 less by each", "kin(0, 50, 99, 8)", "pad A\"d\"", "behind(0, 1) = 89", "pad A\"dd\"",
            "behind(0, 1) = 79; judge(2) = 188", "pad A\"d\"A\"d\"", "behind(0, 1) = 79; judge(2) = 188");
        DOC.holds("0 at least", "kin(0, 50, 11, 8)", "pad A\"d\"", "behind(0, 1) = 1; judge(2) = 11", "pad A\"dd\"",
            "behind(0, 1) = 0; judge(2) = 12", "kin(0, 50, 10, 8)", "behind(0, 1) = 0; judge(2) = 10", "kin(0, 50, 9, 8)",
            "behind(0, 1) = 0; judge(2) = 9", "kin(0, 50, 1, 8)", "behind(0, 1) = 0; judge(2) = 1", "kin(0, 50, 0, 8)",
            "behind(0, 1) = 0; judge(2) = 0");
        DOC.holds("who has not, says them", "pad B\"dddd\"",
            "judge(0) = NONE; judge(2) = 0; behind(1, 1) = 30; behind(0, 1) = 30; trust(0) = 0");
        DOC.holds("NONE has it: nobody holds a letter", "pause(-1)", "pad A\"d\"B\"d\"",
            "judge(0) = NONE; judge(2) = 0; first(0) = NONE; behind(0, 1) = 30");
        DOC.holds("LETTERS none, and all", "kin(0, 50, 50, 0)", "pad A\"abcdefghij\"", "judge(2) = 0; behind(0, 1) = 50",
            "kin(0, 50, 50, 1023)", "judge(2) = 150; behind(0, 1) = 0");
        DOC.holds("the longest saying that the PAD holds", "kin(0, 50, 99, 8)", "pad A\"" + "d".repeat(57) + "\"",
            "judge(2) = 540; behind(0, 1) = 0; done() = 1; told(3) = 540");
        DOC.holds("it holds by its own LETTERS and BREATH once it is lent", "tie(0, 1, true); kin(1, 50, 25, 1)",
            "pad A\"d\"A>BB\"da\"A\"d\"", "judge(2) = 55; behind(0, 1) = 20; behind(1, 1) = 15");
    }

    private static void rests() {
        DOC.holds("BREATH is 20 more", "kin(1, 50, 0, 8)", "pad B=", "behind(1, 1) = 20", "pad B=B=", "behind(1, 1) = 40");
        DOC.holds("99 at most", "kin(1, 50, 78, 8)", "pad B=", "behind(1, 1) = 98; kin(1, 50, 79, 8)",
            "behind(1, 1) = 99; kin(1, 50, 80, 8)", "behind(1, 1) = 99", "kin(1, 50, 98, 8)", "behind(1, 1) = 99");
        DOC.holds("4 BREATH is 99 already", "kin(1, 50, 99, 8)", "pad B=", "judge(0) = 0; judge(1) = 4; behind(1, 1) = STATE",
            "kin(1, 50, 79, 8)", "pad B=B=", "judge(0) = 1; judge(1) = 4", "kin(1, 50, 98, 8)", "judge(0) = 1; judge(1) = 4");
        DOC.holds("who rests needs no PAUSE", "pad H=", "judge(0) = NONE; behind(7, 1) = 50; trust(0) = 0", "pause(-1)",
            "behind(7, 1) = 50");
        DOC.holds("a rest saves nothing", "pad A=", "judge(2) = 0; first(0) = NONE");
    }

    private static void dies() {
        DOC.holds("its TIES stay", "tie(0, 1, true); tie(1, 2, true)", "pad B+",
            "done() = 1; told(11) = 5; told(10) = 2; told(12) = 2; tie(3, 4, true) = 3");
        DOC.holds("BREATH and AGE of the dead stay", "kin(1, 60, 70, 8)", "pad B+",
            "behind(1, 1) = 70; behind(1, 0) = 0; done(); told(110) = 60; told(111) = 70; told(112) = 8");
        DOC.holds("has it not the PAUSE, that stays", "tie(1, 2, true); kin(2, 99, 1, 1)", "pad B+",
            "trust(0) = 0; trust(2) = 253");
        DOC.holds("to the oldest of those who live with a TIE to it",
            "tie(0, 3, true); tie(0, 5, true); kin(5, 51, 1, 1); kin(7, 99, 1, 1)", "pad A+", "trust(0) = 5");
        DOC.holds("with a TIE, however young", "tie(0, 3, true); kin(3, 0, 1, 1)", "pad A+", "trust(0) = 3");
        DOC.holds("the least of as old, of those with a TIE", "tie(0, 5, true); tie(0, 3, true); tie(6, 0, true)", "pad A+",
            "trust(0) = 3");
        DOC.holds("of those who live with a TIE", "tie(0, 5, true); tie(0, 3, true); kin(3, 99, 1, 1)", "pad D+A+", "trust(0) = 5");
        DOC.holds("else to the oldest of all who live", "tie(0, 3, true); kin(6, 51, 1, 1)", "pad D+A+", "trust(0) = 6",
            "tie(0, 3, false)", "pad A+", "trust(0) = 6");
        DOC.holds("the least of as old, of all", "pause(7)", "pad H+", "trust(0) = 0", "pad A+H+", "trust(0) = 1");
        DOC.holds("never to itself, who is the oldest", "kin(0, 99, 1, 1)", "pad A+", "trust(0) = 1", "tie(0, 4, true)",
            "trust(0) = 4");
        DOC.holds("the oldest may be 0 years old", "kin(0, 0, 1, 1); kin(1, 0, 1, 1); kin(2, 0, 1, 1); kin(3, 0, 1, 1)",
            "pad E+F+G+H+A+", "trust(0) = 1");
        DOC.holds("else to NONE", EVERYBODY_DIES,
            "trust(0) = NONE; trust(2) = 0; behind(7, 2) = 0; done() = 8; told(2) = NONE; told(1) = 0");
        DOC.holds("the last one keeps it until then", "pad A+B+C+D+E+F+G+", "trust(0) = 7; trust(2) = 128");
        DOC.holds("a death without a PAUSE leaves NONE", "pause(-1); tie(0, 1, true)", "pad A+", "trust(0) = NONE");
    }

    private static void doors() {
        DOC.holds("the PAUSE falls back to the oldest who live", "kin(5, 51, 1, 1)", "pad !", "trust(0) = 5; judge(2) = 0",
            "pad F+!", "judge(0) = 1; judge(1) = 5");
        DOC.holds("likewise: the least of as old", "pause(7)", "pad !", "trust(0) = 0", "kin(6, 51, 1, 1); kin(4, 51, 1, 1)",
            "trust(0) = 4");
        DOC.holds("by no TIE", "kin(5, 51, 1, 1); tie(0, 1, true)", "pad !", "trust(0) = 5");
        DOC.holds("from NONE too", "pause(-1)", "pad !", "judge(0) = NONE; trust(0) = 0");
        DOC.holds("5 the PAUSE is with that one already", "pad !", "judge(0) = 0; judge(1) = 5; trust(0) = STATE", "pause(1)",
            "pad !!", "judge(0) = 1; judge(1) = 5");
        DOC.holds("as old as the oldest, but not the least: it falls", "pause(1)", "pad !", "judge(0) = NONE; trust(0) = 0");
        DOC.holds("5 nobody lives", EVERYBODY_DIES + "!", "judge(0) = 8; judge(1) = 5", EVERYBODY_DIES, "done()", "pad !",
            "judge(0) = 0; judge(1) = 5");
    }

    private static void whichReason() {
        DOC.holds("1 the KIN does not live", "pad B+B=", "judge(0) = 1; judge(1) = 1", "pad B+B+", "judge(1) = 1", "pad B+B\"d\"",
            "judge(1) = 1", "pad B+B>A", "judge(1) = 1");
        DOC.holds("one of both", "tie(0, 1, true)", "pad B+A>B", "judge(0) = 1; judge(1) = 1", "pad B+B>A", "judge(1) = 1",
            "pad B+C+B>C", "judge(0) = 2; judge(1) = 1", "pad B+B>B", "judge(1) = 1");
        DOC.holds("2 it has not the PAUSE", "tie(1, 2, true)", "pad B>C", "judge(0) = 0; judge(1) = 2", "pause(-1)",
            "judge(1) = 2");
        DOC.holds("3 there is no TIE", "tie(0, 1, true); tie(1, 2, true)", "pad A>C", "judge(1) = 3", "pad A>A", "judge(1) = 3",
            "pad A>BB>CC>A", "judge(0) = 2; judge(1) = 3");
        DOC.holds("the least: 1 ahead of 2", "tie(1, 2, true)", "pad C+B>C", "judge(1) = 1");
        DOC.holds("the least: 1 ahead of 3", "pad C+A>C", "judge(1) = 1");
        DOC.holds("the least: 2 ahead of 3", "pad B>C", "judge(1) = 2", "pad B>B", "judge(1) = 2", "pause(-1)", "pad A>A",
            "judge(1) = 2");
        DOC.holds("the least: 1 ahead of 4", "kin(1, 50, 99, 8)", "pad B=", "judge(1) = 4", "pad B+B=",
            "judge(0) = 1; judge(1) = 1");
        DOC.holds("by the ACTS ahead of it", "tie(0, 1, true)", "pad A>BA>B", "judge(0) = 1; judge(1) = 2", "pad A+B+C>D",
            "judge(0) = 2; judge(1) = 3");
    }

    private static void whichAct() {
        DOC.holds("the first ACT that can not be", "pad B>CB+B=!", "judge(0) = 0; judge(1) = 2", "pad !B>C",
            "judge(0) = 0; judge(1) = 5");
        DOC.holds("from 0 on, each ACT once however many signs", "tie(0, 1, true)", "pad A\"abcdefghij\"A>B!B=C+C=",
            "judge(0) = 5; judge(1) = 1");
        DOC.holds("behind thirty ACTS",
            "kin(0, 50, 0, 8); kin(1, 50, 0, 8); kin(2, 50, 0, 8); kin(3, 50, 0, 8); kin(4, 50, 0, 8); kin(5, 50, 0, 8)",
            "pad A=A=A=A=A=B=B=B=B=B=C=C=C=C=C=D=D=D=D=D=E=E=E=E=E=F=F=F=F=F=",
            "judge(0) = NONE; behind(0, 1) = 99; behind(5, 1) = 99", "kin(5, 50, 20, 8)",
            "judge(0) = 29; judge(1) = 4; done() = STATE", "kin(5, 50, 18, 8)", "done() = 30");
        DOC.holds("sixty doors", "pause(1)", "pad " + "!".repeat(60), "fault() = NONE; judge(0) = 1; judge(1) = 5; done() = STATE");
    }

    private static void judge() {
        DOC.holds("9: NONE", "judge(0) = NONE; judge(1) = NONE", "pad A=", "judge(0) = NONE; judge(1) = NONE");
        DOC.holds("9: NONE, whatever an earlier text answered", "pad A=!", "judge(0) = 1; judge(1) = 5", "pad A=",
            "judge(0) = NONE; judge(1) = NONE; judge(2) = 0", "pad A=!",
            "judge(2) = STATE; wipe() = 3; judge(0) = NONE; judge(1) = NONE");
        DOC.holds("seconds saved in the text, not ahead of it", "pad A\"d\"", "judge(2) = 30; done(); judge(2) = 0; told(3) = 30",
            "pad A\"d\"", "judge(2) = 20; trust(1) = 50");
        DOC.holds("9: OUTSIDE", "judge(-1) = OUTSIDE; judge(3) = OUTSIDE; judge(LOW) = OUTSIDE; judge(HIGH) = OUTSIDE", "pad I",
            "judge(3) = OUTSIDE", "pad !", "judge(-1) = OUTSIDE");
        DOC.holds("9: NO: there is a FAULT", "pad A", "judge(0) = NO; judge(1) = NO; judge(2) = NO", "pad !I",
            "judge(0) = NO; judge(1) = NO; judge(2) = NO");
        DOC.holds("9: STATE (2): some ACT can not be", "pad A\"d\"!", "judge(0) = 1; judge(1) = 5; judge(2) = STATE");
        DOC.holds("NO ahead of STATE", "pad !A", "judge(2) = NO; behind(0, 0) = NO; trust(0) = NO; first(0) = NO; done() = NO");
    }

    private static void behind() {
        DOC.holds("10: of an empty PAD as it is",
            "behind(0, 0) = 1; behind(0, 1) = 30; behind(0, 2) = 1; behind(7, 0) = 1; behind(7, 2) = 0");
        DOC.holds("10: UNKNOWN; OUTSIDE; NO", "pad I",
            "behind(8, 3) = UNKNOWN; behind(-1, 0) = UNKNOWN; behind(0, 3) = OUTSIDE; behind(7, -1) = OUTSIDE",
            "behind(7, 0) = NO");
        DOC.holds("10: UNKNOWN; OUTSIDE; STATE", "pad !",
            "behind(8, 3) = UNKNOWN; behind(HIGH, 0) = UNKNOWN; behind(0, HIGH) = OUTSIDE; behind(0, LOW) = OUTSIDE",
            "behind(0, 0) = STATE; behind(7, 1) = STATE; behind(7, 2) = STATE");
        DOC.holds("10: as of judge(2): NO", "pad A", "behind(0, 0) = NO; behind(0, 1) = NO; behind(0, 2) = NO");
        DOC.holds("10: of who does not live", "pad A+", "behind(0, 0) = 0; behind(0, 1) = 30; behind(0, 2) = 0; behind(1, 2) = 1");
    }

    private static void trust() {
        DOC.holds("11: NONE", "pause(-1); trust(0) = NONE; trust(1) = 0; trust(2) = 255", EVERYBODY_DIES, "trust(0) = NONE");
        DOC.holds("11: who live (bits)", "pad A+", "trust(2) = 254", "pad H+", "trust(2) = 127", "pad A+H+",
            "trust(2) = 126; told(1) = 255");
        DOC.holds("11: SAVED in all", "pad A\"d\"", "done(); trust(1) = 30", "pad A\"d\"", "trust(1) = 50; told(3) = 30");
        DOC.holds("11: OUTSIDE; NO, STATE", "pad I",
            "trust(3) = OUTSIDE; trust(-1) = OUTSIDE; trust(0) = NO; trust(1) = NO; trust(2) = NO", "pad !",
            "trust(3) = OUTSIDE; trust(0) = STATE; trust(1) = STATE; trust(2) = STATE");
    }

    private static void first() {
        DOC.holds("12: NONE", "first(0) = NONE; first(1) = NONE", "pad A=A\"a\"B\"d\"A+", "first(0) = NONE; first(1) = NONE");
        DOC.holds("12: NONE, whatever an earlier text answered", "pad A\"d\"",
            "first(0) = 0; first(1) = 0; wipe() = 4; first(0) = NONE; first(1) = NONE", "pad B=A\"d\"",
            "first(0) = 1; first(1) = 0; done() = 2; first(0) = NONE; first(1) = NONE");
        DOC.holds("the first ACT by which SAVED is more", "tie(0, 7, true)", "pad A\"a\"B\"d\"A>HA\"d\"H\"jd\"H\"d\"",
            "first(0) = 4; first(1) = 7");
        DOC.holds("the first of all, who has KIN 0", "pad A\"d\"A\"d\"", "first(0) = 0; first(1) = 0");
        DOC.holds("SAVED is not more by BREATH 0", "kin(0, 50, 0, 8)", "pad A\"dd\"", "first(0) = NONE; first(1) = NONE",
            "pad A\"dd\"A=A\"d\"", "first(0) = 2; first(1) = 0");
        DOC.holds("what was saved ahead of the text is no matter", "pad A\"d\"", "done() = 1", "pad B=A\"d\"", "first(0) = 1");
        DOC.holds("12: OUTSIDE; NO, STATE", "pad A", "first(2) = OUTSIDE; first(-1) = OUTSIDE; first(0) = NO; first(1) = NO",
            "pad A\"d\"!", "first(2) = OUTSIDE; first(0) = STATE; first(1) = STATE");
    }

    private static void done() {
        DOC.holds("13: the PAD is empty then", "pad A=",
            "done() = 1; told(0) = 0; fault() = NONE; wipe() = 0; done() = 0; told(101) = 50; say(33) = 1");
        DOC.holds("13: ACTS", "kin(7, 99, 1, 1)", "pad A=B\"abc\"!H+", "done() = 4", "pad !",
            "done() = STATE; wipe() = 1; done() = 0");
        DOC.holds("13: NO: nothing is done, the PAD stays", "pad A\"d\"A",
            "done() = NO; told(0) = 5; told(3) = 0; told(101) = 30; say(61) = 6; done() = 2; told(3) = 30; told(101) = 40");
        DOC.holds("13: STATE: nothing is done, the PAD stays", "pad A\"d\"B+!",
            "done() = STATE; told(0) = 7; told(1) = 255; told(3) = 0; told(101) = 30; judge(0) = 2");
        DOC.holds("it is so then", "tie(0, 1, true)", "pad A\"d\"A>BC+H=",
            "done() = 4; told(1) = 251; told(2) = 1; told(3) = 30; told(101) = 20; told(171) = 50; told(10) = 2");
    }

    private static void holds() {
        DOC.holds("n (1 to 20)",
            "holds(0, 1) = 30; holds(0, 20) = 60; holds(0, 0) = OUTSIDE; holds(0, 21) = OUTSIDE; holds(0, LOW) = OUTSIDE",
            "holds(0, HIGH) = OUTSIDE");
        DOC.holds("14: UNKNOWN; OUTSIDE",
            "holds(8, 0) = UNKNOWN; holds(-1, 21) = UNKNOWN; holds(8, 1) = UNKNOWN; holds(7, 0) = OUTSIDE; holds(7, 1) = 30");
        DOC.holds("BREATH is 10 less by each, 0 at least",
            "kin(7, 50, 99, 8); holds(7, 9) = 531; holds(7, 10) = 540; holds(7, 11) = 540; holds(7, 20) = 540",
            "kin(7, 50, 9, 8); holds(7, 1) = 9; holds(7, 2) = 9; kin(7, 50, 10, 8); holds(7, 2) = 10; kin(7, 50, 0, 8)",
            "holds(7, 20) = 0");
        DOC.holds("had it the PAUSE", "pause(-1); holds(0, 3) = 60; holds(5, 3) = 60; told(2) = NONE");
        DOC.holds("whether it has LETTERS or not", "kin(0, 50, 30, 0); holds(0, 3) = 60; kin(0, 50, 30, 1023); holds(0, 3) = 60");
        DOC.holds("of who does not live, as things are now", "pad B+", "done(); holds(1, 2) = 50", "pad A\"d\"",
            "holds(0, 1) = 30");
        DOC.holds("nothing is said in fact", "holds(0, 20) = 60; told(101) = 30; told(3) = 0; holds(0, 20) = 60");
    }

    private static void oldest() {
        DOC.holds("the oldest, the least",
            "oldest() = 0; kin(7, 51, 1, 1); oldest() = 7; kin(5, 51, 1, 1); oldest() = 5; kin(5, 50, 1, 1); oldest() = 7");
        DOC.holds("of those who live", "kin(3, 99, 1, 1); kin(4, 98, 1, 1); oldest() = 3", "pad D+",
            "oldest() = 3; done(); oldest() = 4; kin(3, 99, 1, 1); oldest() = 3");
        DOC.holds("15: NONE", EVERYBODY_DIES, "oldest() = 0; done(); oldest() = NONE; kin(6, 0, 0, 0); oldest() = 6");
        DOC.holds("whoever has the PAUSE", "pause(5); oldest() = 0; pause(-1); oldest() = 0");
    }
}
