import java.util.List;

/** Promises 6 to 8: say, wipe, fault. */
final class PadTest {
    private static final Check CHECK = new Check("PadTest");

    public static void main(String[] args) {
        say();
        sayRefused();
        wipe();
        textsWithoutFault();
        textsWithFault();
        everySignBehindEveryStart();
        fullPad();
        CHECK.end();
    }

    private static void say() {
        TrustedPause x = new TrustedPause();
        CHECK.same("say(33)", x.say(33), 1);
        CHECK.same("say(126)", x.say(126), 2);
        CHECK.same("say(65)", x.say(65), 3);
        CHECK.same("told(0)", x.told(0), 3);
    }

    private static void sayRefused() {
        TrustedPause x = new TrustedPause();
        for (int sign : new int[] {32, 127, 0, -1, 65 + 256, 65 + 65536, Integer.MIN_VALUE, Integer.MAX_VALUE}) {
            CHECK.same("say(" + sign + ")", x.say(sign), -2);
        }
        CHECK.same("fault()", x.fault(), -6);
        for (int i = 1; i <= 60; i++) CHECK.same("say(33)", x.say(33), i);
        List<Integer> before = Check.stateOf(x);
        CHECK.same("say(33) on a full PAD", x.say(33), -4);
        CHECK.same("say(126) on a full PAD", x.say(126), -4);
        CHECK.same("say(32) on a full PAD", x.say(32), -2);
        CHECK.same("say(127) on a full PAD", x.say(127), -2);
        CHECK.unchanged("a refused say", before, x);
        CHECK.same("fault()", x.fault(), -6);
    }

    private static void wipe() {
        TrustedPause x = new TrustedPause();
        CHECK.same("wipe()", x.wipe(), 0);
        for (int i = 1; i <= 60; i++) x.say(90);
        CHECK.same("fault()", x.fault(), 0);
        CHECK.same("wipe()", x.wipe(), 60);
        CHECK.same("wipe()", x.wipe(), 0);
        CHECK.same("told(0)", x.told(0), 0);
        CHECK.same("fault()", x.fault(), -6);
        CHECK.same("say(65)", x.say(65), 1);
    }

    private static void faultOf(String text, int due) {
        TrustedPause x = new TrustedPause();
        CHECK.sayAll(x, text);
        CHECK.same("fault() of " + text, x.fault(), due);
        CHECK.same("done() of " + text, x.done() == -5 ? 1 : 0, due == -6 ? 0 : 1);
    }

    private static void textsWithoutFault() {
        String[] texts = {"!", "!!", "A>B", "H>A", "A>A", "A\"a\"", "H\"abcdefghij\"", "A=", "A+", "A\"aa\"", "A=B+!C>DE\"j\"!"};
        for (String text : texts) faultOf(text, -6);
    }

    private static void textsWithFault() {
        Object[][] texts = {
            {"A", 1}, {"I", 0}, {"a", 0}, {">", 0}, {"=", 0}, {"+", 0}, {"\"", 0}, {"AA", 1}, {"A!", 1}, {"Aa", 1},
            {"A>", 2}, {"A>I", 2}, {"A>a", 2}, {"A>!", 2}, {"A>>", 2}, {"A>\"", 2}, {"A\"", 2}, {"A\"\"", 2}, {"A\"A", 2},
            {"A\"k", 2}, {"A\"a", 3}, {"A\"aA", 3}, {"A\"ak\"", 3}, {"A\"a!", 3}, {"A\"a\"\"", 4}, {"A==", 2}, {"A++", 2},
            {"A>BB", 4}, {"A>B>", 3}, {"!I", 1}, {"!A", 2}, {"A=B", 3}, {"A<B", 1}, {"@=", 0}, {"A\"`\"", 2}, {"A>@", 2}};
        for (Object[] text : texts) faultOf((String) text[0], (Integer) text[1]);
    }

    /** Each of the five places that a sign can be due at, against all signs. */
    private static void everySignBehindEveryStart() {
        String[] starts = {"", "A", "A>", "A\"", "A\"a"};
        String[] stand = {"ABCDEFGH!", ">\"=+", "ABCDEFGH", "abcdefghij", "abcdefghij\""};
        for (int i = 0; i < starts.length; i++) {
            for (int sign = 33; sign <= 126; sign++) {
                TrustedPause x = new TrustedPause();
                CHECK.sayAll(x, starts[i]);
                x.say(sign);
                CHECK.holds(starts[i] + (char) sign, stand[i].indexOf(sign) < 0 == (x.fault() == starts[i].length()));
            }
        }
    }

    private static void fullPad() {
        faultOf("A=".repeat(30), -6);
        faultOf("A=".repeat(29) + "A>", 60);
        faultOf("A=".repeat(29) + "=A", 58);
        faultOf("A=".repeat(29) + "!A", 60);
        faultOf("A=".repeat(29) + "!I", 59);
        faultOf("A\"" + "a".repeat(58), 60);
        faultOf("A\"" + "a".repeat(57) + "\"", -6);
        faultOf("!".repeat(60), -6);
    }
}
