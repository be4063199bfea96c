import java.util.List;

/** Promises 16 to 18: lent, stay, sentences. */
final class LendingTest {
    private static final Check CHECK = new Check("LendingTest");
    private static final int LOW = Integer.MIN_VALUE, HIGH = Integer.MAX_VALUE;

    public static void main(String[] args) {
        lent();
        lentPastTheDead();
        lentRefused();
        stay();
        stayOfNone();
        stayFewest();
        stayPastTheDead();
        countBySearch();
        countOfLong();
        firstBySearch();
        sentencesRefused();
        CHECK.end();
    }

    private static void tieAll(TrustedPause x, int... ends) {
        for (int i = 0; i + 1 < ends.length; i += 2) x.tie(ends[i], ends[i + 1], true);
    }

    private static void lent() {
        TrustedPause x = new TrustedPause();
        tieAll(x, 0, 5, 5, 7, 0, 3, 3, 7, 7, 1, 1, 2, 2, 4, 4, 6);
        CHECK.same("lent(0, 0, 0)", x.lent(0, 0, 0), 0);
        CHECK.same("lent(0, 0, 1)", x.lent(0, 0, 1), -6);
        CHECK.same("lent(0, 5, 0)", x.lent(0, 5, 0), 1);
        CHECK.same("lent(0, 5, 1)", x.lent(0, 5, 1), 5);
        CHECK.same("lent(0, 7, 0)", x.lent(0, 7, 0), 2);
        CHECK.same("lent(0, 7, 1)", x.lent(0, 7, 1), 3);
        CHECK.same("lent(7, 0, 1)", x.lent(7, 0, 1), 3);
        CHECK.same("lent(0, 6, 0)", x.lent(0, 6, 0), 6);
        CHECK.same("lent(6, 0, 1)", x.lent(6, 0, 1), 4);
        x.pause(-1);
        CHECK.same("whoever has it", x.lent(0, 6, 0), 6);
        TrustedPause chain = new TrustedPause();
        tieAll(chain, 0, 1, 1, 2, 2, 3, 3, 4, 4, 5, 5, 6, 6, 7);
        CHECK.same("lent(0, 7, 0)", chain.lent(0, 7, 0), 7);
        CHECK.same("lent(7, 0, 0)", chain.lent(7, 0, 0), 7);
        CHECK.same("lent(7, 0, 1)", chain.lent(7, 0, 1), 6);
        chain.tie(3, 4, false);
        CHECK.same("lent(7, 0, 0)", chain.lent(7, 0, 0), -6);
        CHECK.same("lent(7, 0, 1)", chain.lent(7, 0, 1), -6);
    }

    private static void lentPastTheDead() {
        TrustedPause x = new TrustedPause();
        tieAll(x, 0, 1, 1, 2, 0, 3, 3, 4, 4, 2);
        CHECK.same("lent(0, 2, 0)", x.lent(0, 2, 0), 2);
        CHECK.write(x, "B+");
        CHECK.same("as things are now", x.lent(0, 2, 0), 2);
        x.done();
        CHECK.same("lent(0, 2, 0)", x.lent(0, 2, 0), 3);
        CHECK.same("lent(0, 2, 1)", x.lent(0, 2, 1), 3);
        CHECK.write(x, "E+");
        x.done();
        CHECK.same("lent(0, 2, 0)", x.lent(0, 2, 0), -6);
        CHECK.same("lent(0, 2, 1)", x.lent(0, 2, 1), -6);
    }

    private static void lentRefused() {
        TrustedPause x = new TrustedPause();
        CHECK.write(x, "B+");
        x.done();
        int[][] wrong = {
            {-1, 0, 0, -1}, {8, 0, 0, -1}, {0, -1, 0, -1}, {0, 8, 0, -1}, {8, 1, 2, -1}, {1, 8, 2, -1}, {0, 2, 2, -2},
            {0, 0, -1, -2}, {1, 0, 2, -2}, {0, 1, -1, -2}, {1, 0, 0, -3}, {0, 1, 0, -3}, {1, 1, 0, -3}, {1, 1, 1, -3},
            {0, 1, 1, -3}, {LOW, 0, 0, -1}, {0, HIGH, 0, -1}, {0, 0, HIGH, -2}};
        List<Integer> before = Check.stateOf(x);
        for (int[] w : wrong) {
            CHECK.same("lent(" + w[0] + ", " + w[1] + ", " + w[2] + ")", x.lent(w[0], w[1], w[2]), w[3]);
        }
        CHECK.unchanged("a refused lent", before, x);
    }

    private static void stayed(String what, TrustedPause x, int worth, int served) {
        CHECK.same("stay(0) " + what, x.stay(0), worth);
        CHECK.same("stay(1) " + what, x.stay(1), served);
    }

    private static void stay() {
        TrustedPause x = new TrustedPause();
        stayed("of a new object", x, 0, 0);
        x.task(0, 0, 0, 5);
        stayed("at minute 0 with who has it", x, 5, 1);
        x.task(1, 1, 0, 99);
        stayed("at minute 0 with another", x, 5, 1);
        tieAll(x, 0, 1, 1, 2);
        stayed("at minute 0 with one tied", x, 5, 1);
        x.task(1, 1, 1, 99);
        stayed("a minute later", x, 104, 2);
        x.task(2, 2, 2, 7);
        stayed("two minutes later", x, 111, 3);
        x.task(3, 0, 3, 8);
        stayed("one of two", x, 112, 3);
        x.task(3, 0, 4, 8);
        stayed("a minute later, both", x, 119, 4);
        x.task(4, 0, 99, 1);
        x.task(5, 0, 99, 1);
        stayed("two in one minute", x, 121, 6);
        x.task(5, 1, 99, 9);
        stayed("two in one minute with two", x, 128, 5);
        x.pause(2);
        stayed("from another", x, 123, 4);
        for (int what : new int[] {-1, 2, LOW, HIGH}) CHECK.same("stay(" + what + ")", x.stay(what), -2);
    }

    private static void stayOfNone() {
        TrustedPause x = new TrustedPause();
        x.task(0, 0, 0, 5);
        x.pause(-1);
        stayed("if NONE has it", x, 0, 0);
        x.pause(0);
        stayed("if one has it again", x, 5, 1);
        CHECK.write(x, "A+");
        x.done();
        stayed("of a dead one", x, 0, 0);
    }

    /** As much worth by fewer tasks, and tasks that are worth nothing. */
    private static void stayFewest() {
        TrustedPause x = new TrustedPause();
        tieAll(x, 0, 1, 0, 2);
        x.task(0, 1, 1, 5);
        x.task(1, 1, 1, 5);
        x.task(2, 2, 1, 10);
        x.task(3, 0, 50, 0);
        stayed("two for one", x, 10, 1);
        x.task(2, 2, 1, 9);
        stayed("two for more", x, 10, 2);
        x.task(0, 2, 1, 1);
        x.task(1, 1, 1, 10);
        stayed("one for two", x, 10, 1);
    }

    private static void stayPastTheDead() {
        TrustedPause x = new TrustedPause();
        tieAll(x, 0, 1, 1, 2, 0, 3, 3, 4, 4, 2);
        x.task(0, 2, 2, 20);
        x.task(1, 1, 30, 50);
        stayed("by two ties", x, 70, 2);
        CHECK.write(x, "B+");
        x.done();
        stayed("the way is longer", x, 0, 0);
        x.task(0, 2, 3, 20);
        stayed("a minute later", x, 20, 1);
    }

    /** By writing out all sentences of up to 5 letters. */
    private static void countBySearch() {
        int[] sets = {0, 1, 8, 512, 3, 513, 40, 73, 1022, 1023, 511, 682};
        TrustedPause x = new TrustedPause();
        int calls = 0;
        for (int set : sets) {
            for (int n = 0; n <= 5; n++) {
                int[] due = countsOf(set, n);
                for (int k = 0; k <= n; k++) {
                    if (calls++ % 400 == 0) x = new TrustedPause();
                    x.kin(4, 50, 30, set);
                    CHECK.same("sentences(" + n + ", " + k + ", 0) of " + set, x.sentences(4, n, k, 0), due[k]);
                }
            }
        }
    }

    private static int[] countsOf(int set, int n) {
        int[] counts = new int[n + 1];
        int all = 1;
        for (int i = 0; i < n; i++) all *= 10;
        for (int digits = 0; digits < all; digits++) {
            int ins = insOf(set, digits, n);
            if (ins >= 0) counts[ins]++;
        }
        return counts;
    }

    /** How many letters are of the set; -1 if one stands beside itself. */
    private static int insOf(int set, int digits, int n) {
        int last = -1;
        int ins = 0;
        for (int i = 0; i < n; i++) {
            int letter = digits % 10;
            if (letter == last) return -1;
            ins += set >> letter & 1;
            last = letter;
            digits /= 10;
        }
        return ins;
    }

    /** Over all k: 10 times 9 to the n - 1, left over by 1000007. */
    private static void countOfLong() {
        for (int set : new int[] {0, 8, 9, 1023, 341}) {
            TrustedPause x = new TrustedPause();
            x.kin(0, 50, 30, set);
            long due = 10;
            for (int n = 1; n <= 30; n++) {
                if (n > 1) due = due * 9 % 1000007;
                if (n % 10 != 0 && n != 29) continue;
                long sum = 0;
                for (int k = 0; k <= n; k++) {
                    int count = x.sentences(0, n, k, 0);
                    CHECK.holds("left over", count >= 0 && count < 1000007);
                    sum += count;
                }
                CHECK.same("all of " + n + " by " + set, sum % 1000007, due);
            }
        }
    }

    private static void firstBySearch() {
        int[] sets = {0, 1, 2, 3, 8, 512, 768, 1022, 1020, 1023, 5, 341, 511, 510, 256, 767, 255};
        for (int set : sets) {
            TrustedPause x = new TrustedPause();
            x.kin(2, 50, 30, set);
            int all = 1;
            for (int n = 1; n <= 5; n++) {
                all *= 10;
                for (int k = 0; k <= n; k++) {
                    CHECK.same("sentences(" + n + ", " + k + ", 1) of " + set, x.sentences(2, n, k, 1), firstOf(set, n, k, all));
                }
            }
        }
        TrustedPause x = new TrustedPause();
        x.kin(0, 50, 30, 512);
        CHECK.same("of j", x.sentences(0, 9, 5, 1), 909090909);
        x.kin(0, 50, 30, 1);
        CHECK.same("of a", x.sentences(0, 9, 0, 1), 121212121);
        CHECK.same("of a", x.sentences(0, 9, 6, 1), -6);
        x.kin(0, 50, 30, 3);
        CHECK.same("of a and b", x.sentences(0, 9, 9, 1), 10101010);
    }

    private static int firstOf(int set, int n, int k, int all) {
        for (int digits = 0; digits < all; digits++) {
            if (insOf(set, digits, n) == k) return digits;
        }
        return -6;
    }

    private static void sentencesRefused() {
        int[][] wrong = {
            {-1, 0, 0, 0, -1}, {8, 0, 0, 0, -1}, {8, 31, 32, 2, -1}, {0, -1, 0, 0, -2}, {0, 31, 0, 0, -2}, {0, 5, 6, 0, -2},
            {0, 5, -1, 0, -2}, {0, 5, 5, -1, -2}, {0, 5, 5, 2, -2}, {0, 0, 0, 1, -2}, {0, 10, 5, 1, -2}, {0, 9, 10, 1, -2},
            {0, 30, 15, 1, -2}, {LOW, 0, 0, 0, -1}, {0, HIGH, HIGH, 0, -2}, {0, LOW, LOW, 0, -2}, {0, 0, 1, 0, -2}};
        TrustedPause x = new TrustedPause();
        List<Integer> before = Check.stateOf(x);
        for (int[] w : wrong) {
            CHECK.same("sentences(" + w[0] + ", " + w[1] + ", " + w[2] + ", " + w[3] + ")", x.sentences(w[0], w[1], w[2], w[3]), w[4]);
        }
        CHECK.unchanged("a refused sentences", before, x);
    }
}
