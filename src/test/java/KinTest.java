import java.util.List;

/** Promises 1 to 5: a new object, kin, tie, pause, task. */
final class KinTest {
    private static final Check CHECK = new Check("KinTest");
    private static final int LOW = Integer.MIN_VALUE, HIGH = Integer.MAX_VALUE;

    public static void main(String[] args) {
        newObject();
        kin();
        kinRefused();
        kinComesAlive();
        tie();
        tieRefused();
        pause();
        pauseRefused();
        task();
        taskRefused();
        CHECK.end();
    }

    private static void newObject() {
        TrustedPause x = new TrustedPause();
        CHECK.same("told(0)", x.told(0), 0);
        CHECK.same("told(1)", x.told(1), 255);
        CHECK.same("told(2)", x.told(2), 0);
        CHECK.same("told(3)", x.told(3), 0);
        CHECK.same("told(4)", x.told(4), 0);
        for (int kin = 0; kin < 8; kin++) {
            CHECK.same("ties of " + kin, x.told(10 + kin), 0);
            CHECK.same("age of " + kin, x.told(100 + 10 * kin), 50);
            CHECK.same("breath of " + kin, x.told(101 + 10 * kin), 30);
            CHECK.same("letters of " + kin, x.told(102 + 10 * kin), 8);
        }
        for (int task = 0; task < 6; task++) {
            for (int part = 0; part < 3; part++) {
                CHECK.same("task " + task + " part " + part, x.told(20 + 10 * task + part), 0);
            }
        }
        CHECK.same("fault()", x.fault(), -6);
        CHECK.same("fits(-1)", x.fits(-1), 336);
        CHECK.same("restore(0)", x.restore(0), -3);
        CHECK.same("restore(1)", x.restore(1), -3);
    }

    private static void kin() {
        TrustedPause x = new TrustedPause();
        CHECK.same("kin(0, 0, 0, 0)", x.kin(0, 0, 0, 0), 50);
        CHECK.same("kin(0, 99, 99, 1023)", x.kin(0, 99, 99, 1023), 0);
        CHECK.same("kin(7, 12, 34, 567)", x.kin(7, 12, 34, 567), 50);
        CHECK.same("kin(0, 98, 97, 1022)", x.kin(0, 98, 97, 1022), 99);
        CHECK.same("told(100)", x.told(100), 98);
        CHECK.same("told(101)", x.told(101), 97);
        CHECK.same("told(102)", x.told(102), 1022);
        CHECK.same("told(170)", x.told(170), 12);
        CHECK.same("told(171)", x.told(171), 34);
        CHECK.same("told(172)", x.told(172), 567);
        CHECK.same("told(110)", x.told(110), 50);
    }

    private static void kinRefused() {
        int[][] wrong = {
            {-1, 0, 0, 0, -1}, {8, 0, 0, 0, -1}, {LOW, 0, 0, 0, -1}, {HIGH, 0, 0, 0, -1},
            {8, 100, 100, 1024, -1}, {0, -1, 0, 0, -2}, {0, 100, 0, 0, -2}, {0, 0, -1, 0, -2},
            {0, 0, 100, 0, -2}, {0, 0, 0, -1, -2}, {0, 0, 0, 1024, -2}, {0, LOW, HIGH, LOW, -2}};
        TrustedPause x = new TrustedPause();
        List<Integer> before = Check.stateOf(x);
        for (int[] w : wrong) {
            CHECK.same("kin(" + w[0] + ", " + w[1] + ", " + w[2] + ", " + w[3] + ")", x.kin(w[0], w[1], w[2], w[3]), w[4]);
        }
        CHECK.unchanged("a refused kin", before, x);
    }

    private static void kinComesAlive() {
        TrustedPause x = new TrustedPause();
        x.kin(3, 77, 5, 6);
        x.tie(3, 4, true);
        CHECK.write(x, "D+");
        CHECK.same("done()", x.done(), 1);
        CHECK.same("told(1)", x.told(1), 255 - 8);
        CHECK.same("kin(3, 100, 1, 1)", x.kin(3, 100, 1, 1), -2);
        CHECK.same("told(1)", x.told(1), 255 - 8);
        CHECK.same("kin(3, 1, 1, 1)", x.kin(3, 1, 1, 1), 77);
        CHECK.same("told(1)", x.told(1), 255);
        CHECK.same("told(13)", x.told(13), 16);
        CHECK.same("told(2)", x.told(2), 0);
    }

    private static void tie() {
        TrustedPause x = new TrustedPause();
        CHECK.same("tie(0, 7, true)", x.tie(0, 7, true), 1);
        CHECK.same("tie(7, 0, true)", x.tie(7, 0, true), 1);
        CHECK.same("tie(1, 2, true)", x.tie(1, 2, true), 2);
        CHECK.same("tie(0, 1, false)", x.tie(0, 1, false), 2);
        CHECK.same("told(10)", x.told(10), 128);
        CHECK.same("told(17)", x.told(17), 1);
        CHECK.same("told(11)", x.told(11), 4);
        CHECK.same("tie(7, 0, false)", x.tie(7, 0, false), 1);
        CHECK.same("told(10)", x.told(10), 0);
        CHECK.same("told(17)", x.told(17), 0);
        int count = 1;
        for (int one = 0; one < 8; one++) {
            for (int other = one + 1; other < 8; other++) {
                if (one != 1 || other != 2) count++;
                CHECK.same("tie(" + other + ", " + one + ", true)", x.tie(other, one, true), count);
            }
        }
        CHECK.same("all ties", count, 28);
        CHECK.write(x, "B+");
        x.done();
        CHECK.same("tie of a dead one", x.tie(1, 0, false), 27);
    }

    private static void tieRefused() {
        TrustedPause x = new TrustedPause();
        x.tie(0, 1, true);
        List<Integer> before = Check.stateOf(x);
        for (boolean is : new boolean[] {true, false}) {
            CHECK.same("tie(0, 0)", x.tie(0, 0, is), -1);
            CHECK.same("tie(7, 7)", x.tie(7, 7, is), -1);
            CHECK.same("tie(-1, 0)", x.tie(-1, 0, is), -1);
            CHECK.same("tie(0, -1)", x.tie(0, -1, is), -1);
            CHECK.same("tie(8, 0)", x.tie(8, 0, is), -1);
            CHECK.same("tie(0, 8)", x.tie(0, 8, is), -1);
            CHECK.same("tie(HIGH, LOW)", x.tie(HIGH, LOW, is), -1);
        }
        CHECK.unchanged("a refused tie", before, x);
    }

    private static void pause() {
        TrustedPause x = new TrustedPause();
        CHECK.same("pause(7)", x.pause(7), 0);
        CHECK.same("pause(7)", x.pause(7), 7);
        CHECK.same("told(2)", x.told(2), 7);
        CHECK.same("pause(-1)", x.pause(-1), 7);
        CHECK.same("told(2)", x.told(2), -6);
        CHECK.same("pause(-1)", x.pause(-1), -6);
        CHECK.same("pause(0)", x.pause(0), -6);
        CHECK.same("pause(3)", x.pause(3), 0);
    }

    private static void pauseRefused() {
        TrustedPause x = new TrustedPause();
        CHECK.write(x, "C+");
        x.done();
        List<Integer> before = Check.stateOf(x);
        CHECK.same("pause(-2)", x.pause(-2), -1);
        CHECK.same("pause(-6)", x.pause(-6), -1);
        CHECK.same("pause(8)", x.pause(8), -1);
        CHECK.same("pause(34)", x.pause(34), -1);
        CHECK.same("pause(HIGH)", x.pause(HIGH), -1);
        CHECK.same("pause(2)", x.pause(2), -3);
        CHECK.unchanged("a refused pause", before, x);
        x.kin(2, 50, 30, 8);
        CHECK.same("pause(2)", x.pause(2), 0);
    }

    private static void task() {
        TrustedPause x = new TrustedPause();
        CHECK.same("task(0, 7, 99, 98)", x.task(0, 7, 99, 98), 0);
        CHECK.same("task(5, 6, 55, 44)", x.task(5, 6, 55, 44), 0);
        CHECK.same("task(0, 1, 2, 3)", x.task(0, 1, 2, 3), 98);
        CHECK.same("told(20)", x.told(20), 1);
        CHECK.same("told(21)", x.told(21), 2);
        CHECK.same("told(22)", x.told(22), 3);
        CHECK.same("told(70)", x.told(70), 6);
        CHECK.same("told(71)", x.told(71), 55);
        CHECK.same("told(72)", x.told(72), 44);
        CHECK.write(x, "B+");
        x.done();
        CHECK.same("task of a dead one", x.task(0, 1, 0, 99), 3);
        CHECK.same("task(0, 0, 0, 0)", x.task(0, 0, 0, 0), 99);
    }

    private static void taskRefused() {
        int[][] wrong = {
            {-1, 0, 0, 0, -1}, {6, 0, 0, 0, -1}, {0, -1, 0, 0, -1}, {0, 8, 0, 0, -1}, {6, 8, 100, 100, -1},
            {0, 8, 100, 0, -1}, {6, 0, 0, -1, -1}, {0, 0, -1, 0, -2}, {0, 0, 100, 0, -2}, {0, 0, 0, -1, -2},
            {0, 0, 0, 100, -2}, {LOW, 0, 0, 0, -1}, {0, HIGH, 0, 0, -1}, {0, 0, HIGH, 0, -2}, {0, 0, 0, LOW, -2}};
        TrustedPause x = new TrustedPause();
        x.task(0, 1, 2, 3);
        List<Integer> before = Check.stateOf(x);
        for (int[] w : wrong) {
            CHECK.same("task(" + w[0] + ", " + w[1] + ", " + w[2] + ", " + w[3] + ")", x.task(w[0], w[1], w[2], w[3]), w[4]);
        }
        CHECK.unchanged("a refused task", before, x);
    }
}
