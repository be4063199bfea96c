import java.util.List;

/** Promises 26 to 28: image, restore, told. */
final class ImagesTest {
    private static final Check CHECK = new Check("ImagesTest");
    private static final int LOW = Integer.MIN_VALUE, HIGH = Integer.MAX_VALUE;

    public static void main(String[] args) {
        keepsAllButThePad();
        keepsTheSights();
        twoImages();
        keptAnew();
        refused();
        told();
        toldRefused();
        CHECK.end();
    }

    private static void change(TrustedPause x, int by) {
        x.kin(by, 10 + by, 20 + by, 30 + by);
        x.tie(by, by + 1, true);
        x.pause(by);
        x.task(by, by, by, by);
        x.seen(by, by, by % 2 == 0);
        x.say(64 + by);
    }

    private static void keepsAllButThePad() {
        TrustedPause x = new TrustedPause();
        change(x, 1);
        CHECK.write(x, "B\"abcde\"H+");
        x.done();
        CHECK.write(x, "!");
        List<Integer> before = Check.stateOf(x);
        int fits = x.fits(-1);
        CHECK.same("image(1)", x.image(1), 1);
        CHECK.unchanged("image", before, x);
        x.wipe();
        change(x, 2);
        change(x, 3);
        x.kin(7, 1, 1, 1);
        CHECK.write(x, "D\"a\"A+");
        x.done();
        CHECK.write(x, "B=C=D=");
        CHECK.same("restore(1)", x.restore(1), 1);
        CHECK.same("the PAD is left", x.told(0), 6);
        CHECK.same("the PAD is left", x.judge(0), -6);
        CHECK.write(x, "!");
        CHECK.unchanged("image and restore", before, x);
        CHECK.same("fits(-1)", x.fits(-1), fits);
        x.wipe();
        change(x, 4);
        CHECK.same("restore(1) again", x.restore(1), 1);
        CHECK.write(x, "!");
        CHECK.unchanged("restore again", before, x);
        CHECK.same("fits(-1)", x.fits(-1), fits);
    }

    /** As many sights, but others, are seen before it is restored. */
    private static void keepsTheSights() {
        TrustedPause x = new TrustedPause();
        x.seen(0, 2, true);
        x.seen(3, 4, false);
        x.seen(9, 5, true);
        int fits = x.fits(-1);
        int least = x.fits(0);
        int question = x.ask(0);
        CHECK.holds("some fit", fits > 1);
        x.image(0);
        int[][] others = {{1, 2, 1}, {3, 3, 0}, {9, 5, 0}};
        x.forget();
        for (int[] s : others) x.seen(s[0], s[1], s[2] == 1);
        CHECK.holds("others fit", x.fits(-1) != fits);
        x.restore(0);
        CHECK.same("told(4)", x.told(4), 3);
        CHECK.same("fits(-1)", x.fits(-1), fits);
        CHECK.same("fits(0)", x.fits(0), least);
        CHECK.same("ask(0)", x.ask(0), question);
    }

    private static void twoImages() {
        TrustedPause x = new TrustedPause();
        change(x, 1);
        x.image(0);
        change(x, 2);
        CHECK.same("restore(1)", x.restore(1), -3);
        x.image(1);
        change(x, 3);
        CHECK.same("restore(0)", x.restore(0), 1);
        CHECK.same("told(2)", x.told(2), 1);
        CHECK.same("told(4)", x.told(4), 1);
        CHECK.same("restore(1)", x.restore(1), 1);
        CHECK.same("told(2)", x.told(2), 2);
        CHECK.same("told(4)", x.told(4), 2);
        CHECK.same("told(12)", x.told(12), 2 + 8);
        CHECK.same("told(13)", x.told(13), 4);
    }

    private static void keptAnew() {
        TrustedPause x = new TrustedPause();
        x.image(0);
        x.pause(5);
        CHECK.same("image(0)", x.image(0), 1);
        x.pause(6);
        x.restore(0);
        CHECK.same("told(2)", x.told(2), 5);
        x.pause(-1);
        x.image(0);
        x.pause(6);
        x.restore(0);
        CHECK.same("told(2)", x.told(2), -6);
    }

    private static void refused() {
        TrustedPause x = new TrustedPause();
        change(x, 1);
        List<Integer> before = Check.stateOf(x);
        for (int k : new int[] {-1, 2, LOW, HIGH}) {
            CHECK.same("image(" + k + ")", x.image(k), -2);
            CHECK.same("restore(" + k + ")", x.restore(k), -2);
        }
        CHECK.same("restore(0)", x.restore(0), -3);
        CHECK.same("restore(1)", x.restore(1), -3);
        CHECK.unchanged("a refused image", before, x);
    }

    private static void told() {
        TrustedPause x = new TrustedPause();
        for (int kin = 0; kin < 8; kin++) x.kin(kin, 10 + kin, 20 + kin, 30 + kin);
        for (int task = 0; task < 6; task++) x.task(task, 7 - task, 40 + task, 50 + task);
        for (int kin = 1; kin < 8; kin++) x.tie(0, kin, true);
        CHECK.same("told(10)", x.told(10), 254);
        for (int kin = 0; kin < 8; kin++) {
            if (kin > 0) CHECK.same("told(" + (10 + kin) + ")", x.told(10 + kin), 1);
            for (int part = 0; part < 3; part++) {
                CHECK.same("told of KIN " + kin, x.told(100 + 10 * kin + part), 10 + 10 * part + kin);
            }
        }
        for (int task = 0; task < 6; task++) {
            CHECK.same("told of TASK " + task, x.told(20 + 10 * task), 7 - task);
            CHECK.same("told of TASK " + task, x.told(21 + 10 * task), 40 + task);
            CHECK.same("told of TASK " + task, x.told(22 + 10 * task), 50 + task);
        }
        CHECK.write(x, "!A\"b\"");
        CHECK.same("told(0)", x.told(0), 5);
        x.seen(1, 1, true);
        CHECK.same("told(4)", x.told(4), 1);
        x.pause(-1);
        CHECK.same("told(2)", x.told(2), -6);
    }

    private static void toldRefused() {
        TrustedPause x = new TrustedPause();
        for (int what = -20; what < 200; what++) {
            boolean is = what >= 0 && what <= 4 || what >= 10 && what <= 17;
            is |= what >= 20 && what < 80 && what % 10 < 3 || what >= 100 && what < 180 && what % 10 < 3;
            CHECK.same("told(" + what + ") is told", x.told(what) == -2 ? 0 : 1, is ? 1 : 0);
        }
        CHECK.same("told(LOW)", x.told(LOW), -2);
        CHECK.same("told(HIGH)", x.told(HIGH), -2);
    }
}
