/** Promises 2 to 17 by long runs of drawn calls, each answer compared with the Model's. */
final class RandomDaysTest {
    private static final Check CHECK = new Check("RandomDaysTest");
    private static long draws = 20261119;

    private TrustedPause x = new TrustedPause();
    private Model model = new Model();
    private int calls = 0;

    public static void main(String[] args) {
        for (int run = 0; run < 2000; run++) new RandomDaysTest().run();
        CHECK.end();
    }

    /** The same draws in every run of the test. */
    private static int draw(int below) {
        draws = draws * 6364136223846793005L + 1442695040888963407L;
        return (int) ((draws >>> 33) % below);
    }

    private static boolean oneIn(int n) {
        return draw(n) == 0;
    }

    private void same(String call, long got, long due) {
        calls++;
        CHECK.same(call, got, due);
    }

    private void run() {
        int ties = draw(29);
        for (int i = 0; i < ties; i++) tie();
        while (calls < 440) {
            switch (draw(8)) {
                case 0: kin(); break;
                case 1: tie(); break;
                case 2: if (oneIn(4)) pause(); break;
                case 3: task(); break;
                case 4: same("oldest()", x.oldest(), model.oldest()); break;
                case 5: lentAndStay(); break;
                default: day();
            }
        }
        same("told(1)", x.told(1), model.livingBits());
        same("told(2)", x.told(2), model.holderName());
        same("told(3)", x.told(3), model.saved);
        for (Model.Person p : model.people) {
            same("told of AGE", x.told(100 + 10 * p.name), p.age);
            same("told of BREATH", x.told(101 + 10 * p.name), p.breath);
            same("told of LETTERS", x.told(102 + 10 * p.name), p.letters);
        }
    }

    private void kin() {
        Model.Person p = model.people.get(draw(8));
        int age = oneIn(2) ? 50 + draw(3) : draw(100);
        int breath = draw(100);
        int letters = draw(1024);
        same("kin", x.kin(p.name, age, breath, letters), p.age);
        p.age = age;
        p.breath = breath;
        p.letters = letters;
        p.lives = true;
    }

    private void tie() {
        int one = draw(8);
        int other = draw(8);
        boolean is = !oneIn(3);
        int due = -1;
        if (one != other) {
            model.tied[one][other] = is;
            model.tied[other][one] = is;
            due = 0;
            for (int a = 0; a < 8; a++) {
                for (int b = 0; b < a; b++) due += model.tied[a][b] ? 1 : 0;
            }
        }
        same("tie", x.tie(one, other, is), due);
    }

    private void pause() {
        int kin = draw(9) - 1;
        boolean can = kin == -1 || model.people.get(kin).lives;
        same("pause", x.pause(kin), can ? model.holderName() : -3);
        if (can) model.holder = kin == -1 ? null : model.people.get(kin);
    }

    private void task() {
        int task = draw(6);
        int[] anew = {draw(8), oneIn(2) ? draw(10) : draw(100), oneIn(3) ? draw(3) : draw(100)};
        same("task", x.task(task, anew[0], anew[1], anew[2]), model.tasks[task][2]);
        model.tasks[task] = anew;
    }

    private void lentAndStay() {
        int from = draw(8);
        int to = draw(8);
        boolean both = model.people.get(from).lives && model.people.get(to).lives;
        for (int what = 0; what < 2; what++) {
            same("lent", x.lent(from, to, what), both ? model.lent(from, to, what) : -3);
            same("stay", x.stay(what), model.stay(what));
        }
    }

    /** Some ACTS, most of which can be, and sometimes any signs. */
    private void day() {
        for (int acts = draw(6); acts > 0; acts--) sayAll(drawAct());
        if (oneIn(6)) sayAll("" + "AHIajk>\"=+!".charAt(draw(11)));
        same("fault()", x.fault(), model.fault());
        ask();
        if (oneIn(3)) {
            same("wipe()", x.wipe(), model.pad.length());
            model.pad.setLength(0);
        } else {
            doneIfItCan();
        }
    }

    private void sayAll(String text) {
        for (int i = 0; i < text.length(); i++) {
            boolean full = model.pad.length() == 60;
            if (!full) model.pad.append(text.charAt(i));
            same("say", x.say(text.charAt(i)), full ? -4 : model.pad.length());
        }
    }

    private String drawAct() {
        Model behind = model.fault() == -6 ? model.behind() : model;
        int with = behind.holder == null || oneIn(4) ? draw(8) : behind.holder.name;
        char kin = (char) ('A' + with);
        switch (draw(9)) {
            case 0: return "!";
            case 1: return (char) ('A' + draw(8)) + "=";
            case 2: return (oneIn(3) ? kin : (char) ('A' + draw(8))) + "+";
            case 3: case 4: case 5: return kin + ">" + (char) ('A' + takerOf(with));
            default: return kin + "\"" + "abcdefghijdadj".substring(draw(10), 10 + draw(4)).concat("c") + "\"";
        }
    }

    private int takerOf(int kin) {
        int taker = draw(8);
        for (int i = 0; i < 8 && !model.tied[kin][taker]; i++) taker = (taker + 1) % 8;
        return taker;
    }

    private void ask() {
        int kin = draw(8);
        int refusal = model.fault() != -6 ? -5 : 0;
        Model behind = refusal == 0 ? model.behind() : model;
        same("judge(0)", x.judge(0), refusal != 0 ? refusal : behind.stuck);
        same("judge(1)", x.judge(1), refusal != 0 ? refusal : behind.stuck == -6 ? -6 : behind.why);
        if (refusal == 0 && behind.stuck != -6) refusal = -3;
        same("judge(2)", x.judge(2), refusal != 0 ? refusal : behind.saved - model.saved);
        Model.Person p = behind.people.get(kin);
        same("behind(0)", x.behind(kin, 0), refusal != 0 ? refusal : p.lives ? 1 : 0);
        same("behind(1)", x.behind(kin, 1), refusal != 0 ? refusal : p.breath);
        same("behind(2)", x.behind(kin, 2), refusal != 0 ? refusal : p == behind.holder ? 1 : 0);
        same("trust(0)", x.trust(0), refusal != 0 ? refusal : behind.holderName());
        same("trust(1)", x.trust(1), refusal != 0 ? refusal : behind.saved);
        same("trust(2)", x.trust(2), refusal != 0 ? refusal : behind.livingBits());
        same("first(0)", x.first(0), refusal != 0 ? refusal : behind.firstAct);
        same("first(1)", x.first(1), refusal != 0 ? refusal : behind.firstKin);
    }

    private void doneIfItCan() {
        int refusal = model.fault() != -6 ? -5 : 0;
        Model behind = refusal == 0 ? model.behind() : model;
        if (refusal == 0 && behind.stuck != -6) refusal = -3;
        same("done()", x.done(), refusal != 0 ? refusal : behind.acts);
        if (refusal == 0) {
            model.beAs(behind);
        } else if (oneIn(2)) {
            same("wipe()", x.wipe(), model.pad.length());
            model.pad.setLength(0);
        }
    }
}
