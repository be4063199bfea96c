import java.math.BigInteger;
import java.util.ArrayList;
import java.util.Arrays;
import java.util.List;

/** Every call of the class once more, written another way: the family and its days are a Model, all else stands here. */
final class WholeModel {
    private static final long UNKNOWN = -1, OUTSIDE = -2, STATE = -3, FULL = -4, NO = -5, NONE = -6;
    private static final long GONE = -1000000000000000000L;
    private static final long TAKEN = 0;
    private static final int[][] HOLDERS = holdersOfAllRounds();

    private record Kept(Model family, List<int[]> sights) { }

    private Model family = new Model();
    private List<int[]> sights = new ArrayList<>();
    private final Kept[] images = new Kept[2];

    int holder() {
        return family.holderName();
    }

    /** Truths are 1 and 0 among the numbers. */
    long answer(String call, int[] a) {
        long refusal = refusal(call, a);
        if (refusal != TAKEN) return call.equals("door") ? GONE + refusal : refusal;
        switch (call) {
            case "kin": return kin(family.people.get(a[0]), a);
            case "tie": return tie(a[0], a[1], a[2] == 1);
            case "pause": return pause(a[0]);
            case "task": return task(a);
            case "say": family.pad.append((char) a[0]); return family.pad.length();
            case "wipe": return wiped();
            case "fault": return family.fault();
            case "judge": case "behind": case "trust": case "first": case "done": return ofDay(call, a, family.behind());
            case "holds": return holds(family.people.get(a[0]).breath, a[1]);
            case "oldest": return family.oldest();
            case "lent": return family.lent(a[0], a[1], a[2]);
            case "stay": return family.stay(a[0]);
            case "sentences": return sentences(family.people.get(a[0]).letters, a[1], a[2], a[3]);
            case "waits": return waits(a[0], a[1], a[2], a[3]);
            case "door": return door(a[0], a[1], a[2], a[3], a[4]);
            case "year": return year(a[0], a[1], a[2]);
            default: return ofRoundsAndImages(call, a);
        }
    }

    private long ofRoundsAndImages(String call, int[] a) {
        switch (call) {
            case "seen": sights.add(a.clone()); return sights.size();
            case "forget": return forgotten();
            case "fits": return fits(a[0], fitting());
            case "ask": return ask(a[0], fitting());
            case "image": images[a[0]] = new Kept(family.twin(), new ArrayList<>(sights)); return 1;
            case "restore": return restored(images[a[0]]);
            case "told": return told(a[0]);
            default: throw new IllegalArgumentException(call);
        }
    }

    // ---- which calls are refused

    private static boolean isIn(int number, int least, int most) {
        return number >= least && number <= most;
    }

    private static boolean areKin(int... numbers) {
        return Arrays.stream(numbers).allMatch(number -> isIn(number, 0, 7));
    }

    private boolean lives(int kin) {
        return family.people.get(kin).lives;
    }

    private long refusal(String call, int[] a) {
        if (isUnknown(call, a)) return UNKNOWN;
        if (isOutside(call, a)) return OUTSIDE;
        boolean needsDay = List.of("behind", "trust", "first", "done").contains(call) || call.equals("judge") && a[0] == 2;
        if ((needsDay || call.equals("judge")) && family.fault() != NONE) return NO;
        if (needsDay && family.behind().stuck != NONE) return STATE;
        boolean isState = call.equals("pause") && a[0] != -1 && !lives(a[0])
            || call.equals("lent") && !(lives(a[0]) && lives(a[1])) || call.equals("restore") && images[a[0]] == null;
        if (isState) return STATE;
        boolean isFull = call.equals("say") && family.pad.length() == 60 || call.equals("seen") && sights.size() == 8;
        return isFull ? FULL : TAKEN;
    }

    private static boolean isUnknown(String call, int[] a) {
        switch (call) {
            case "kin": case "behind": case "holds": case "sentences": return !areKin(a[0]);
            case "tie": return !areKin(a[0], a[1]) || a[0] == a[1];
            case "lent": return !areKin(a[0], a[1]);
            case "pause": return a[0] != -1 && !areKin(a[0]);
            case "task": return !isIn(a[0], 0, 5) || !areKin(a[1]);
            case "seen": return !areKin(a[1]);
            default: return false;
        }
    }

    private static boolean isOutside(String call, int[] a) {
        switch (call) {
            case "kin": return !isIn(a[1], 0, 99) || !isIn(a[2], 0, 99) || !isIn(a[3], 0, 1023);
            case "task": return !isIn(a[2], 0, 99) || !isIn(a[3], 0, 99);
            case "say": return !isIn(a[0], 33, 126);
            case "judge": case "trust": return !isIn(a[0], 0, 2);
            case "behind": return !isIn(a[1], 0, 2);
            case "first": case "stay": case "ask": case "image": case "restore": return !isIn(a[0], 0, 1);
            case "holds": return !isIn(a[1], 1, 20);
            case "lent": return !isIn(a[2], 0, 1);
            case "sentences": return !isIn(a[1], a[3] == 1 ? 1 : 0, a[3] == 1 ? 9 : 30) || !isIn(a[2], 0, a[1]) || !isIn(a[3], 0, 1);
            case "seen": return !isIn(a[0], 0, 60);
            case "waits": return !isIn(a[0], 0, 99) || !isIn(a[1], 1, 9) || !isIn(a[2], 0, 9) || !isIn(a[3], 0, 1);
            case "door": return !isIn(a[0], 0, 15) || !isIn(a[1], 0, 10) || !isIn(a[2], 0, a[0]) || !isIn(a[3], 0, 1) || !isIn(a[4], 0, 1);
            case "year": return !isIn(a[0], 0, 9999) || !isIn(a[1], 1, 99) || !isIn(a[2], 0, 2);
            case "told": return !isIn(a[0], 0, 4) && !isIn(a[0], 10, 17) && !isPartOf(a[0] - 20, 6) && !isPartOf(a[0] - 100, 8);
            default: return false;
        }
    }

    private static boolean isPartOf(int number, int rows) {
        return number >= 0 && number / 10 < rows && number % 10 < 3;
    }

    // ---- kin, ties, the pause, days

    private static long kin(Model.Person p, int[] a) {
        int had = p.age;
        p.age = a[1];
        p.breath = a[2];
        p.letters = a[3];
        p.lives = true;
        return had;
    }

    private long tie(int one, int other, boolean is) {
        family.tied[one][other] = is;
        family.tied[other][one] = is;
        long ends = 0;
        for (boolean[] row : family.tied) {
            for (boolean tied : row) ends += tied ? 1 : 0;
        }
        return ends / 2;
    }

    private long pause(int kin) {
        long had = family.holderName();
        family.holder = kin == -1 ? null : family.people.get(kin);
        return had;
    }

    private long task(int[] a) {
        int had = family.tasks[a[0]][2];
        family.tasks[a[0]] = Arrays.copyOfRange(a, 1, 4);
        return had;
    }

    private long wiped() {
        int had = family.pad.length();
        family.pad.setLength(0);
        return had;
    }

    private long ofDay(String call, int[] a, Model behind) {
        switch (call) {
            case "judge": return a[0] == 0 ? behind.stuck : a[0] == 2 ? behind.saved - family.saved : behind.stuck == NONE ? NONE : behind.why;
            case "behind": return ofKinBehind(behind.people.get(a[0]), a[1], behind);
            case "trust": return a[0] == 0 ? behind.holderName() : a[0] == 1 ? behind.saved : behind.livingBits();
            case "first": return a[0] == 0 ? behind.firstAct : behind.firstKin;
            default: family.beAs(behind); return behind.acts;
        }
    }

    private static long ofKinBehind(Model.Person p, int what, Model behind) {
        return what == 1 ? p.breath : (what == 0 ? p.lives : p == behind.holder) ? 1 : 0;
    }

    private static long holds(int breath, int n) {
        long seconds = 0;
        for (int i = 0; i < n; i++) seconds += Math.max(0, breath - 10 * i);
        return seconds;
    }

    // ---- sentences

    /** How many sentences of so many more letters hold so many of the set, by the letter ahead of them (10: none). */
    private static BigInteger[][][] waysOn(int set, int n) {
        BigInteger[][][] ways = new BigInteger[n + 1][n + 2][11];
        for (int left = 0; left <= n; left++) {
            for (int k = 0; k <= n + 1; k++) {
                for (int last = 0; last <= 10; last++) {
                    BigInteger sum = left == 0 && k == 0 ? BigInteger.ONE : BigInteger.ZERO;
                    for (int letter = 0; left > 0 && letter < 10; letter++) {
                        int then = k - (set >> letter & 1);
                        if (letter != last && then >= 0) sum = sum.add(ways[left - 1][then][letter]);
                    }
                    ways[left][k][last] = sum;
                }
            }
        }
        return ways;
    }

    private static long sentences(int set, int n, int k, int what) {
        BigInteger[][][] ways = waysOn(set, n);
        if (what == 0) return ways[n][k][10].mod(BigInteger.valueOf(1000007)).longValueExact();
        if (ways[n][k][10].signum() == 0) return NONE;
        long digits = 0;
        int last = 10;
        int due = k;
        for (int left = n - 1; left >= 0; left--) {
            int letter = 0;
            while (letter == last || due < (set >> letter & 1) || ways[left][due - (set >> letter & 1)][letter].signum() == 0) letter++;
            due -= set >> letter & 1;
            digits = 10 * digits + letter;
            last = letter;
        }
        return digits;
    }

    // ---- rounds

    /** Who has it at each minute, by going on from minute to minute; null where the code is no round. */
    private static int[][] holdersOfAllRounds() {
        int[][] holders = new int[777][];
        for (int code = 0; code <= 776; code++) {
            int s = code / 10 % 10;
            int p = code % 10;
            if (!isIn(s, 1, 7) || !isIn(p, 1, 6)) continue;
            holders[code] = new int[61];
            int with = code / 100;
            for (int minute = 0; minute <= 60; minute++) {
                if (minute > 0 && minute % p == 0) with = (with + s) % 8;
                holders[code][minute] = with;
            }
        }
        return holders;
    }

    private List<Integer> fitting() {
        List<Integer> codes = new ArrayList<>();
        for (int code = 0; code <= 776; code++) {
            int[] holders = HOLDERS[code];
            if (holders != null && sights.stream().allMatch(s -> (holders[s[0]] == s[1]) == (s[2] == 1))) codes.add(code);
        }
        return codes;
    }

    private static long fits(int i, List<Integer> codes) {
        return i == -1 ? codes.size() : isIn(i, 0, codes.size() - 1) ? codes.get(i) : NONE;
    }

    private static long ask(int what, List<Integer> codes) {
        if (codes.isEmpty()) return NONE;
        long question = NONE;
        long fewest = Long.MAX_VALUE;
        for (int minute = 0; minute <= 60; minute++) {
            for (int kin = 0; kin < 8; kin++) {
                long silent = 0;
                for (int code : codes) silent += HOLDERS[code][minute] == kin ? 1 : 0;
                long left = Math.max(silent, codes.size() - silent);
                if (left >= fewest) continue;
                fewest = left;
                question = 10 * minute + kin;
            }
        }
        return what == 0 ? question : fewest;
    }

    private long forgotten() {
        int had = sights.size();
        sights.clear();
        return had;
    }

    // ---- waiting, doors, years

    /** From the end on: who is left with a number from which none can be reached that loses, has lost. */
    private static long waits(int n, int k, int digit, int what) {
        boolean[] loses = new boolean[n + 1];
        long first = NONE;
        for (int left = 0; left <= n; left++) {
            first = NONE;
            for (int then = left - 1; then >= Math.max(0, left - k) && first == NONE; then--) {
                boolean isBarred = String.valueOf(then).endsWith(String.valueOf(digit));
                if (!isBarred && loses[then]) first = left - then;
            }
            loses[left] = first == NONE;
        }
        return what == 1 ? first : first == NONE ? 0 : 1;
    }

    /** By the chance of each number of quiet minutes ahead of a bang. */
    private static long door(int n, int t, int k, int what, int part) {
        BigInteger upper = BigInteger.ZERO;
        for (int quiet = 0; quiet <= n; quiet++) {
            BigInteger ways = BigInteger.valueOf(10 - t).pow(quiet);
            if (quiet < n) ways = ways.multiply(BigInteger.valueOf(t)).multiply(BigInteger.TEN.pow(n - quiet - 1));
            if (what == 1) upper = upper.add(ways.multiply(BigInteger.valueOf(quiet)));
            else if (quiet >= k) upper = upper.add(ways);
        }
        BigInteger lower = BigInteger.TEN.pow(n);
        BigInteger by = upper.gcd(lower);
        return (part == 0 ? upper : lower).divide(by).longValueExact();
    }

    /** Each draw is a day of one ACT, which is DONE by a twin if it can be. */
    private long year(int seed, int m, int what) {
        Model twin = family.twin();
        long x = seed;
        for (int i = 0; i < m; i++) {
            x = (75 * x + 74) % 65537;
            twin.pad.setLength(0);
            twin.pad.append(ChanceTest.textOf((int) x));
            Model behind = twin.behind();
            if (behind.stuck == NONE) twin.beAs(behind);
        }
        return what == 0 ? twin.saved : what == 1 ? twin.holderName() : Integer.bitCount(twin.livingBits());
    }

    // ---- images

    private long restored(Kept image) {
        StringBuilder pad = family.pad;
        family = image.family.twin();
        family.pad = pad;
        sights = new ArrayList<>(image.sights);
        return 1;
    }

    private long told(int what) {
        switch (what) {
            case 0: return family.pad.length();
            case 1: return family.livingBits();
            case 2: return family.holderName();
            case 3: return family.saved;
            case 4: return sights.size();
            default:
        }
        if (what < 20) {
            long bits = 0;
            for (int other = 0; other < 8; other++) bits += family.tied[what - 10][other] ? 1 << other : 0;
            return bits;
        }
        if (what < 100) return family.tasks[what / 10 - 2][what % 10];
        Model.Person p = family.people.get(what / 10 - 10);
        return what % 10 == 0 ? p.age : what % 10 == 1 ? p.breath : p.letters;
    }
}
