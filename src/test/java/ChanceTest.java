import java.math.BigInteger;
import java.util.List;

/** Promises 23 to 25: waits, door, year. */
final class ChanceTest {
    private static final Check CHECK = new Check("ChanceTest");
    private static final long REFUSED = -1000000000000000002L;
    private static final int LOW = Integer.MIN_VALUE, HIGH = Integer.MAX_VALUE;

    private static TrustedPause object = new TrustedPause();
    private static int calls = 0;

    public static void main(String[] args) {
        waits();
        waitsRefused();
        doorNoneBangs();
        doorMean();
        doorRefused();
        year();
        shortYears();
        yearOfTheDead();
        yearRefused();
        CHECK.end();
    }

    /** One that has not had its 512 calls. */
    private static TrustedPause any() {
        calls++;
        if (calls % 500 == 0) object = new TrustedPause();
        return object;
    }

    private static void waits() {
        for (int k = 1; k <= 9; k++) {
            for (int digit = 0; digit <= 9; digit++) {
                boolean[] wins = new boolean[100];
                for (int n = 0; n <= 99; n++) {
                    int least = -6;
                    for (int wait = Math.min(k, n); wait >= 1; wait--) {
                        boolean may = (n - wait) % 10 != digit;
                        if (may && !wins[n - wait]) least = wait;
                    }
                    wins[n] = least != -6;
                    CHECK.same("waits(" + n + ", " + k + ", " + digit + ", 0)", any().waits(n, k, digit, 0), wins[n] ? 1 : 0);
                    CHECK.same("waits(" + n + ", " + k + ", " + digit + ", 1)", any().waits(n, k, digit, 1), least);
                }
            }
        }
    }

    private static void waitsRefused() {
        int[][] wrong = {
            {-1, 1, 0, 0}, {100, 1, 0, 0}, {1, 0, 0, 0}, {1, 10, 0, 0}, {1, 1, -1, 0}, {1, 1, 10, 0}, {1, 1, 0, -1}, {1, 1, 0, 2},
            {LOW, 1, 0, 0}, {1, HIGH, 0, 0}, {1, 1, LOW, 0}, {1, 1, 0, HIGH}};
        for (int[] w : wrong) CHECK.same("waits", any().waits(w[0], w[1], w[2], w[3]), -2);
    }

    private static void fraction(int n, int t, int k, int what, BigInteger upper, BigInteger lower) {
        BigInteger by = upper.gcd(lower);
        String call = "door(" + n + ", " + t + ", " + k + ", " + what + ", ";
        CHECK.same(call + "0)", any().door(n, t, k, what, 0), upper.divide(by).longValueExact());
        CHECK.same(call + "1)", any().door(n, t, k, what, 1), lower.divide(by).longValueExact());
    }

    private static void doorNoneBangs() {
        for (int n = 0; n <= 15; n++) {
            for (int t = 0; t <= 10; t++) {
                for (int k = 0; k <= n; k++) {
                    fraction(n, t, k, 0, BigInteger.valueOf(10 - t).pow(k), BigInteger.TEN.pow(k));
                }
            }
        }
    }

    /** By the chance of each number of minutes: j quiet ones and a bang, or n quiet ones. */
    private static void doorMean() {
        for (int n = 0; n <= 15; n++) {
            for (int t = 0; t <= 10; t++) {
                BigInteger quiet = BigInteger.valueOf(10 - t);
                BigInteger upper = quiet.pow(n).multiply(BigInteger.valueOf(n));
                for (int j = 0; j < n; j++) {
                    BigInteger ways = quiet.pow(j).multiply(BigInteger.valueOf(t)).multiply(BigInteger.TEN.pow(n - j - 1));
                    upper = upper.add(ways.multiply(BigInteger.valueOf(j)));
                }
                fraction(n, t, 0, 1, upper, BigInteger.TEN.pow(n));
                fraction(n, t, n, 1, upper, BigInteger.TEN.pow(n));
            }
        }
    }

    private static void doorRefused() {
        int[][] wrong = {
            {-1, 5, 0, 0, 0}, {16, 5, 0, 0, 0}, {5, -1, 0, 0, 0}, {5, 11, 0, 0, 0}, {5, 5, -1, 0, 0}, {5, 5, 6, 0, 0},
            {5, 5, 6, 1, 0}, {5, 5, -1, 1, 1}, {5, 5, 5, -1, 0}, {5, 5, 5, 2, 0}, {5, 5, 5, 0, -1}, {5, 5, 5, 0, 2},
            {LOW, 5, LOW, 0, 0}, {HIGH, 5, 0, 0, 0}, {5, HIGH, 0, 0, 0}, {5, 5, HIGH, 0, 0}, {5, 5, 5, LOW, 0}, {5, 5, 5, 0, HIGH}};
        for (int[] w : wrong) {
            CHECK.same("door", any().door(w[0], w[1], w[2], w[3], w[4]), REFUSED);
        }
    }

    private static TrustedPause livelyFamily() {
        TrustedPause x = new TrustedPause();
        for (int kin = 0; kin < 8; kin++) {
            x.kin(kin, 20 + 7 * kin % 50, 10 * kin + 9, 1023 - (1 << kin));
            for (int other = 0; other < kin; other++) x.tie(kin, other, (kin + other) % 3 != 0);
        }
        return x;
    }

    /** The same draws, each as an ACT on the PAD of a second family that is done if it can be. */
    private static void yearByActs(TrustedPause x, TrustedPause other, int seed, int m) {
        int before = x.told(3);
        List<Integer> state = Check.stateOf(x);
        int saved = x.year(seed, m, 0);
        int holder = x.year(seed, m, 1);
        int living = x.year(seed, m, 2);
        CHECK.unchanged("year", state, x);
        CHECK.holds("SAVED is in all", saved >= before);
        int draw = seed;
        for (int i = 0; i < m; i++) {
            draw = (75 * draw + 74) % 65537;
            actIfItCan(other, textOf(draw));
        }
        String call = "year(" + seed + ", " + m + ", ";
        CHECK.same(call + "0)", saved, other.told(3));
        CHECK.same(call + "1)", holder, other.told(2));
        CHECK.same(call + "2)", living, Integer.bitCount(other.told(1)));
    }

    /** The drawn ACT as a text; an empty one where none is drawn. */
    static String textOf(int x) {
        char kin = (char) ('A' + x % 8);
        int z = x / 64;
        switch (x / 8 % 8) {
            case 0: case 1: case 2: return kin + ">" + (char) ('A' + z % 8);
            case 3: case 4: return kin + "\"" + (char) ('a' + z % 10) + "\"";
            case 5: return kin + "=";
            case 6: return "!";
            default: return z % 16 == 0 ? kin + "+" : "";
        }
    }

    private static void actIfItCan(TrustedPause x, String text) {
        for (int i = 0; i < text.length(); i++) x.say(text.charAt(i));
        if (x.done() < 0) x.wipe();
    }

    private static void year() {
        int[][] years = {
            {0, 1}, {0, 99}, {9999, 99}, {1, 99}, {77, 64}, {2026, 99}, {4242, 50}, {5, 90}, {314, 99}, {8191, 33}, {6553, 99},
            {9, 99}, {13, 99}, {100, 99}, {2500, 99}, {7777, 99}, {6006, 99}, {31, 98}, {555, 97}, {1234, 96}};
        for (int[] y : years) {
            yearByActs(livelyFamily(), livelyFamily(), y[0], y[1]);
            yearByActs(new TrustedPause(), new TrustedPause(), y[0], y[1]);
        }
        TrustedPause x = livelyFamily();
        TrustedPause other = livelyFamily();
        for (TrustedPause family : List.of(x, other)) {
            CHECK.write(family, "A\"hij\"A+");
            CHECK.same("done()", family.done(), 2);
        }
        yearByActs(x, other, 99, 80);
    }

    /** Few draws, of many seeds, so that each draw tells. */
    private static void shortYears() {
        for (int seed = 0; seed < 10000; seed += 97) {
            for (int m = 1; m <= 4; m++) yearByActs(livelyFamily(), livelyFamily(), seed, m);
        }
    }

    private static void yearOfTheDead() {
        TrustedPause x = new TrustedPause();
        CHECK.write(x, "A\"d\"A+B+C+D+E+F+G+H+");
        CHECK.same("done()", x.done(), 9);
        for (int seed = 0; seed < 20; seed++) {
            CHECK.same("year 0", x.year(seed, 99, 0), 30);
            CHECK.same("year 1", x.year(seed, 99, 1), -6);
            CHECK.same("year 2", x.year(seed, 99, 2), 0);
        }
    }

    private static void yearRefused() {
        int[][] wrong = {
            {-1, 1, 0}, {10000, 1, 0}, {0, 0, 0}, {0, 100, 0}, {0, 1, -1}, {0, 1, 3}, {LOW, 1, 0}, {HIGH, 1, 0}, {0, HIGH, 0}, {0, 1, LOW}};
        for (int[] w : wrong) CHECK.same("year", any().year(w[0], w[1], w[2]), -2);
    }
}
