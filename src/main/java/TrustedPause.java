import java.util.Arrays;

/**
 * A stammer held in trust by a family of eight; ../shared/DOC.md says what each call answers.
 *
 * Every row that a call needs is made with the object and used again, because all calls of a run
 * share one room.
 */
public final class TrustedPause {
    public static final int UNKNOWN = -1, OUTSIDE = -2, STATE = -3, FULL = -4, NO = -5, NONE = -6;
    public static final long GONE = -1000000000000000000L;

    private static final int KINS = 8;
    private static final int EVERYONE = 255;
    private static final int MOST = 99;
    private static final int LETTERS = 10;
    private static final int LETTER_SETS = 1 << LETTERS;
    private static final int TASKS = 6;
    private static final int SIGNS = 60;
    private static final int SIGHTS = 8;
    private static final int LAST_MINUTE = 60;
    private static final int STRIDES = 7;
    private static final int SPANS = 6;
    private static final int ROUNDS = KINS * STRIDES * SPANS;
    private static final int LONGEST_SENTENCE = 30;
    private static final int LONGEST_TOLD = 9;
    private static final int LONGEST_DOOR = 15;
    private static final int BY = 1000007;

    private static final int CAN = 0;
    private static final int NOT_LIVING = 1;
    private static final int NOT_HOLDING = 2;
    private static final int NOT_TIED = 3;
    private static final int NOT_TIRED = 4;
    private static final int NOT_FALLING = 5;

    private final Family family;
    private final Family trial;
    private final Pad pad;
    private final Day day;
    private final Tasks tasks;
    private final Sights sights;
    private final Rounds rounds;
    private final Sentences phrases;
    private final int[] winningWaits;
    private final Image image0;
    private final Image image1;

    public TrustedPause() {
        family = new Family();
        trial = new Family();
        pad = new Pad();
        day = new Day();
        tasks = new Tasks();
        sights = new Sights();
        rounds = new Rounds();
        phrases = new Sentences();
        winningWaits = new int[MOST + 1];
        image0 = new Image();
        image1 = new Image();
    }

    // ---- 1 kin, ties, the pause

    public int kin(int kin, int age, int breath, int letters) {
        if (!isKin(kin)) return UNKNOWN;
        if (!isIn(age, 0, MOST) || !isIn(breath, 0, MOST)) return OUTSIDE;
        if (!isIn(letters, 0, LETTER_SETS - 1)) return OUTSIDE;
        int had = family.ages[kin];
        family.ages[kin] = age;
        family.breaths[kin] = breath;
        family.letters[kin] = letters;
        family.living |= 1 << kin;
        return had;
    }

    public int tie(int one, int other, boolean is) {
        if (!isKin(one) || !isKin(other) || one == other) return UNKNOWN;
        family.setTie(one, other, is);
        return family.countTies();
    }

    public int pause(int kin) {
        if (kin != -1 && !isKin(kin)) return UNKNOWN;
        if (kin != -1 && !family.lives(kin)) return STATE;
        int had = family.holder;
        family.holder = kin == -1 ? NONE : kin;
        return had;
    }

    public int task(int task, int kin, int minute, int worth) {
        if (!isIn(task, 0, TASKS - 1) || !isKin(kin)) return UNKNOWN;
        if (!isIn(minute, 0, MOST) || !isIn(worth, 0, MOST)) return OUTSIDE;
        int had = tasks.worths[task];
        tasks.kins[task] = kin;
        tasks.minutes[task] = minute;
        tasks.worths[task] = worth;
        return had;
    }

    public int say(int sign) {
        if (!isIn(sign, 33, 126)) return OUTSIDE;
        return pad.append(sign);
    }

    public int wipe() {
        int had = pad.count;
        pad.count = 0;
        return had;
    }

    public int fault() {
        return pad.faultyPlace();
    }

    // ---- 2 days

    public int judge(int what) {
        if (!isIn(what, 0, 2)) return OUTSIDE;
        int refusal = walkDay();
        if (refusal == NO) return NO;
        if (what == 0) return day.stuckAct;
        if (what == 1) return day.stuckReason;
        return refusal == STATE ? STATE : day.family.saved - family.saved;
    }

    public int behind(int kin, int what) {
        if (!isKin(kin)) return UNKNOWN;
        if (!isIn(what, 0, 2)) return OUTSIDE;
        int refusal = walkDay();
        if (refusal != CAN) return refusal;
        if (what == 0) return day.family.lives(kin) ? 1 : 0;
        if (what == 1) return day.family.breaths[kin];
        return day.family.holder == kin ? 1 : 0;
    }

    public int trust(int what) {
        if (!isIn(what, 0, 2)) return OUTSIDE;
        int refusal = walkDay();
        if (refusal != CAN) return refusal;
        if (what == 0) return day.family.holder;
        return what == 1 ? day.family.saved : day.family.living;
    }

    public int first(int what) {
        if (!isIn(what, 0, 1)) return OUTSIDE;
        int refusal = walkDay();
        if (refusal != CAN) return refusal;
        return what == 0 ? day.firstAct : day.firstKin;
    }

    public int done() {
        int refusal = walkDay();
        if (refusal != CAN) return refusal;
        family.copyFrom(day.family);
        pad.count = 0;
        return day.acts;
    }

    public int holds(int kin, int n) {
        if (!isKin(kin)) return UNKNOWN;
        if (!isIn(n, 1, 20)) return OUTSIDE;
        int seconds = 0;
        int breath = family.breaths[kin];
        for (int i = 0; i < n; i++) {
            seconds += breath;
            breath = breathAfterLetter(breath);
        }
        return seconds;
    }

    public int oldest() {
        return family.oldestOf(family.living);
    }

    // ---- 3 lending, tasks, sentences

    public int lent(int from, int to, int what) {
        if (!isKin(from) || !isKin(to)) return UNKNOWN;
        if (!isIn(what, 0, 1)) return OUTSIDE;
        if (!family.lives(from) || !family.lives(to)) return STATE;
        return what == 0 ? family.fewestTies(from, to) : family.firstOnWay(from, to);
    }

    public int stay(int what) {
        if (!isIn(what, 0, 1)) return OUTSIDE;
        tasks.plan(family);
        return what == 0 ? tasks.mostWorth : tasks.fewestServed;
    }

    public int sentences(int kin, int n, int k, int what) {
        if (!isKin(kin)) return UNKNOWN;
        if (!isIn(n, 0, LONGEST_SENTENCE) || !isIn(k, 0, n) || !isIn(what, 0, 1)) return OUTSIDE;
        if (what == 0) return phrases.countAll(family.letters[kin], n, k);
        if (!isIn(n, 1, LONGEST_TOLD)) return OUTSIDE;
        return phrases.leastOne(family.letters[kin], n, k);
    }

    // ---- 4 rounds, waiting, doors

    public int seen(int minute, int kin, boolean silent) {
        if (!isKin(kin)) return UNKNOWN;
        if (!isIn(minute, 0, LAST_MINUTE)) return OUTSIDE;
        return sights.append(minute, kin, silent);
    }

    public int forget() {
        int had = sights.count;
        sights.count = 0;
        return had;
    }

    public int fits(int i) {
        rounds.collect(sights);
        if (i == -1) return rounds.count;
        return isIn(i, 0, rounds.count - 1) && i < ROUNDS ? rounds.codes[i] : NONE;
    }

    public int ask(int what) {
        if (!isIn(what, 0, 1)) return OUTSIDE;
        rounds.collect(sights);
        if (rounds.count == 0) return NONE;
        rounds.chooseQuestion();
        return what == 0 ? rounds.question : rounds.leftAtMost;
    }

    public int waits(int n, int k, int digit, int what) {
        if (!isIn(n, 0, MOST) || !isIn(k, 1, 9)) return OUTSIDE;
        if (!isIn(digit, 0, 9) || !isIn(what, 0, 1)) return OUTSIDE;
        for (int left = 0; left <= n; left++) {
            winningWaits[left] = leastWinningWait(left, k, digit);
        }
        if (what == 1) return winningWaits[n];
        return winningWaits[n] == NONE ? 0 : 1;
    }

    public long door(int n, int t, int k, int what, int part) {
        if (!isIn(n, 0, LONGEST_DOOR) || !isIn(t, 0, 10) || !isIn(k, 0, n)) return GONE + OUTSIDE;
        if (!isIn(what, 0, 1) || !isIn(part, 0, 1)) return GONE + OUTSIDE;
        int quietTenths = 10 - t;
        if (what == 0) return inLowestTerms(power(quietTenths, k), power(10, k), part);
        return inLowestTerms(meanUpper(quietTenths, n), power(10, n), part);
    }

    public int year(int seed, int m, int what) {
        if (!isIn(seed, 0, 9999) || !isIn(m, 1, MOST) || !isIn(what, 0, 2)) return OUTSIDE;
        trial.copyFrom(family);
        int x = seed;
        for (int i = 0; i < m; i++) {
            x = (75 * x + 74) % 65537;
            trial.actByDraw(x);
        }
        if (what == 0) return trial.saved;
        return what == 1 ? trial.holder : Integer.bitCount(trial.living);
    }

    public int image(int k) {
        if (!isIn(k, 0, 1)) return OUTSIDE;
        Image kept = imageOf(k);
        kept.family.copyFrom(family);
        kept.tasks.copyFrom(tasks);
        kept.sights.copyFrom(sights);
        kept.isKept = true;
        return 1;
    }

    public int restore(int k) {
        if (!isIn(k, 0, 1)) return OUTSIDE;
        Image kept = imageOf(k);
        if (!kept.isKept) return STATE;
        family.copyFrom(kept.family);
        tasks.copyFrom(kept.tasks);
        sights.copyFrom(kept.sights);
        return 1;
    }

    public int told(int what) {
        if (isIn(what, 0, 4)) return toldOfAll(what);
        if (isIn(what, 10, 10 + KINS - 1)) return family.ties[what - 10];
        if (isIn(what, 20, 20 + 10 * TASKS - 1)) return toldOfTask((what - 20) / 10, what % 10);
        if (isIn(what, 100, 100 + 10 * KINS - 1)) return toldOfKin((what - 100) / 10, what % 10);
        return OUTSIDE;
    }

    // ---- helpers of the face

    private static boolean isIn(int number, int least, int most) {
        return number >= least && number <= most;
    }

    private static boolean isKin(int number) {
        return number >= 0 && number < KINS;
    }

    private static boolean isOf(int set, int number) {
        return number >= 0 && number <= 30 && (set >> number & 1) == 1;
    }

    private static int breathAfterLetter(int breath) {
        return breath > 10 ? breath - 10 : 0;
    }

    /** Walks the text on the PAD: NO or STATE if that is refused, else CAN. */
    private int walkDay() {
        if (pad.faultyPlace() != NONE) return NO;
        day.walk(pad, family);
        return day.stuckAct == NONE ? CAN : STATE;
    }

    /** Looks only at rows below left, which must be filled already. */
    private int leastWinningWait(int left, int k, int digit) {
        for (int wait = 1; wait <= k && wait <= left; wait++) {
            int then = left - wait;
            if (then <= MOST && then % 10 != digit && winningWaits[then] == NONE) return wait;
        }
        return NONE;
    }

    private static long power(int base, int exponent) {
        long product = 1;
        for (int i = 0; i < exponent; i++) {
            product *= base;
        }
        return product;
    }

    /** The upper number of q + q q + .. (n times) over 10 to the n, q being so many tenths. */
    private static long meanUpper(int tenths, int n) {
        long upper = 0;
        long lower = 1;
        for (int i = 0; i < n; i++) {
            upper = tenths * (lower + upper);
            lower *= 10;
        }
        return upper;
    }

    private static long inLowestTerms(long upper, long lower, int part) {
        long divisor = commonDivisor(upper, lower);
        long told = part == 0 ? upper : lower;
        return divisor > 1 ? told / divisor : told;
    }

    /** A hundred steps are enough for any two longs. */
    private static long commonDivisor(long one, long other) {
        for (int i = 0; i < 100 && other != 0; i++) {
            long rest = one % other;
            one = other;
            other = rest;
        }
        return one;
    }

    private Image imageOf(int k) {
        return k == 0 ? image0 : image1;
    }

    private int toldOfAll(int what) {
        switch (what) {
            case 0: return pad.count;
            case 1: return family.living;
            case 2: return family.holder;
            case 3: return family.saved;
            default: return sights.count;
        }
    }

    private int toldOfTask(int task, int what) {
        if (!isIn(task, 0, TASKS - 1)) return OUTSIDE;
        switch (what) {
            case 0: return tasks.kins[task];
            case 1: return tasks.minutes[task];
            case 2: return tasks.worths[task];
            default: return OUTSIDE;
        }
    }

    private int toldOfKin(int kin, int what) {
        if (!isKin(kin)) return OUTSIDE;
        switch (what) {
            case 0: return family.ages[kin];
            case 1: return family.breaths[kin];
            case 2: return family.letters[kin];
            default: return OUTSIDE;
        }
    }

    /** Who lives, who is tied to whom, who has the PAUSE; each act answers CAN or why it can not be. */
    private static final class Family {
        final int[] ages = new int[KINS];
        final int[] breaths = new int[KINS];
        final int[] letters = new int[KINS];
        final int[] ties = new int[KINS];
        int living = EVERYONE;
        int holder = 0;
        int saved = 0;

        Family() {
            Arrays.fill(ages, 50);
            Arrays.fill(breaths, 30);
            Arrays.fill(letters, 1 << 3);
        }

        void copyFrom(Family other) {
            System.arraycopy(other.ages, 0, ages, 0, KINS);
            System.arraycopy(other.breaths, 0, breaths, 0, KINS);
            System.arraycopy(other.letters, 0, letters, 0, KINS);
            System.arraycopy(other.ties, 0, ties, 0, KINS);
            living = other.living;
            holder = other.holder;
            saved = other.saved;
        }

        boolean lives(int kin) {
            return kin >= 0 && kin < KINS && (living >> kin & 1) == 1;
        }

        void setTie(int one, int other, boolean is) {
            if (!isKin(one) || !isKin(other)) return;
            if (is) {
                ties[one] |= 1 << other;
                ties[other] |= 1 << one;
            } else {
                ties[one] &= ~(1 << other);
                ties[other] &= ~(1 << one);
            }
        }

        int countTies() {
            int ends = 0;
            for (int kin = 0; kin < KINS; kin++) {
                ends += Integer.bitCount(ties[kin]);
            }
            return ends / 2;
        }

        int oldestOf(int set) {
            int found = NONE;
            int foundAge = -1;
            for (int kin = 0; kin < KINS; kin++) {
                if (isOf(set, kin) && ages[kin] > foundAge) {
                    found = kin;
                    foundAge = ages[kin];
                }
            }
            return found;
        }

        int lend(int from, int to) {
            if (!lives(from) || !lives(to)) return NOT_LIVING;
            if (holder != from) return NOT_HOLDING;
            if (!isOf(ties[from], to)) return NOT_TIED;
            holder = to;
            return CAN;
        }

        int speak(int kin, int letter) {
            if (!lives(kin)) return NOT_LIVING;
            if (holder == kin && isOf(letters[kin], letter)) {
                saved += breaths[kin];
                breaths[kin] = breathAfterLetter(breaths[kin]);
            }
            return CAN;
        }

        int rest(int kin) {
            if (!lives(kin)) return NOT_LIVING;
            if (breaths[kin] >= MOST) return NOT_TIRED;
            breaths[kin] = Math.min(MOST, breaths[kin] + 20);
            return CAN;
        }

        int die(int kin) {
            if (!lives(kin)) return NOT_LIVING;
            living &= ~(1 << kin);
            if (holder == kin) {
                int heir = oldestOf(living & ties[kin]);
                holder = heir != NONE ? heir : oldestOf(living);
            }
            return CAN;
        }

        int fallBack() {
            int heir = oldestOf(living);
            if (heir == NONE || heir == holder) return NOT_FALLING;
            holder = heir;
            return CAN;
        }

        /** What can not be is passed over, so no reason is told. */
        void actByDraw(int x) {
            int kin = x % 8;
            int z = x / 64;
            switch (x / 8 % 8) {
                case 0: case 1: case 2: lend(kin, z % 8); break;
                case 3: case 4: speak(kin, z % 10); break;
                case 5: rest(kin); break;
                case 6: fallBack(); break;
                default: if (z % 16 == 0) die(kin);
            }
        }

        int neighboursOf(int set) {
            int found = 0;
            for (int kin = 0; kin < KINS; kin++) {
                if (isOf(set, kin)) found |= ties[kin];
            }
            return found & living;
        }

        /** Both must live. */
        int fewestTies(int from, int to) {
            int reached = 1 << from;
            for (int steps = 0; steps < KINS; steps++) {
                if (isOf(reached, to)) return steps;
                reached |= neighboursOf(reached);
            }
            return NONE;
        }

        int firstOnWay(int from, int to) {
            int steps = fewestTies(from, to);
            if (steps == NONE || steps == 0) return NONE;
            int near = neighboursOf(1 << from);
            for (int kin = 0; kin < KINS; kin++) {
                if (isOf(near, kin) && fewestTies(kin, to) == steps - 1) return kin;
            }
            return NONE;
        }
    }

    /** The text of signs, of which any may be said: it is looked through only when it is asked about. */
    private static final class Pad {
        private static final int ACT = 0, VERB = 1, TAKER = 2, LETTER = 3, LETTER_OR_END = 4, WRONG = 5;

        final int[] signs = new int[SIGNS];
        int count = 0;

        int append(int sign) {
            if (count >= SIGNS || count < 0) return FULL;
            signs[count] = sign;
            count++;
            return count;
        }

        int signAt(int place) {
            return place >= 0 && place < count && place < SIGNS ? signs[place] : 0;
        }

        int faultyPlace() {
            int due = ACT;
            for (int place = 0; place < count; place++) {
                due = dueBehind(due, signAt(place));
                if (due == WRONG) return place;
            }
            return due == ACT ? NONE : count;
        }

        private static int dueBehind(int due, int sign) {
            boolean isName = isIn(sign, 'A', 'H');
            boolean isLetter = isIn(sign, 'a', 'j');
            switch (due) {
                case ACT: return sign == '!' ? ACT : isName ? VERB : WRONG;
                case VERB: return dueBehindVerb(sign);
                case TAKER: return isName ? ACT : WRONG;
                case LETTER: return isLetter ? LETTER_OR_END : WRONG;
                case LETTER_OR_END: return isLetter ? LETTER_OR_END : sign == '"' ? ACT : WRONG;
                default: return WRONG;
            }
        }

        private static int dueBehindVerb(int sign) {
            switch (sign) {
                case '>': return TAKER;
                case '"': return LETTER;
                case '=': case '+': return ACT;
                default: return WRONG;
            }
        }

        /** How many signs the ACT takes that begins at this place of a text without a FAULT. */
        int lengthOfAct(int place) {
            if (signAt(place) == '!') return 1;
            switch (signAt(place + 1)) {
                case '>': return 3;
                case '"': return 3 + lettersFrom(place + 2);
                default: return 2;
            }
        }

        int lettersFrom(int place) {
            int letters = 0;
            while (letters < SIGNS && isIn(signAt(place + letters), 'a', 'j')) {
                letters++;
            }
            return letters;
        }
    }

    /** A text lived through, up to the first ACT that can not be, by a family that is not the real one. */
    private static final class Day {
        final Family family = new Family();
        int acts = 0;
        int stuckAct = NONE;
        int stuckReason = NONE;
        int firstAct = NONE;
        int firstKin = NONE;

        /** The text must be without a FAULT. */
        void walk(Pad pad, Family before) {
            begin(before);
            int place = 0;
            for (int act = 0; act < SIGNS && place < pad.count && stuckAct == NONE; act++) {
                int savedBefore = family.saved;
                int reason = tryAct(pad, place);
                if (reason != CAN) {
                    stuckAct = act;
                    stuckReason = reason;
                } else {
                    if (firstAct == NONE && family.saved > savedBefore) {
                        firstAct = act;
                        firstKin = pad.signAt(place) - 'A';
                    }
                    place += pad.lengthOfAct(place);
                    acts = act + 1;
                }
            }
        }

        private void begin(Family before) {
            family.copyFrom(before);
            acts = 0;
            stuckAct = NONE;
            stuckReason = NONE;
            firstAct = NONE;
            firstKin = NONE;
        }

        private int tryAct(Pad pad, int place) {
            if (pad.signAt(place) == '!') return family.fallBack();
            int kin = pad.signAt(place) - 'A';
            switch (pad.signAt(place + 1)) {
                case '>': return family.lend(kin, pad.signAt(place + 2) - 'A');
                case '=': return family.rest(kin);
                case '+': return family.die(kin);
                default: return speakAll(pad, place + 2, kin);
            }
        }

        private int speakAll(Pad pad, int place, int kin) {
            int reason = CAN;
            int letters = pad.lettersFrom(place);
            for (int i = 0; i < letters; i++) {
                reason = family.speak(kin, pad.signAt(place + i) - 'a');
            }
            return reason;
        }
    }

    private static final class Tasks {
        final int[] kins = new int[TASKS];
        final int[] minutes = new int[TASKS];
        final int[] worths = new int[TASKS];
        int mostWorth = 0;
        int fewestServed = 0;

        void copyFrom(Tasks other) {
            System.arraycopy(other.kins, 0, kins, 0, TASKS);
            System.arraycopy(other.minutes, 0, minutes, 0, TASKS);
            System.arraycopy(other.worths, 0, worths, 0, TASKS);
        }

        /** Tries every set of tasks; the empty one can always be served. */
        void plan(Family family) {
            mostWorth = 0;
            fewestServed = 0;
            for (int set = 1; set < 1 << TASKS; set++) {
                if (isBetter(set) && canServe(set, family)) {
                    mostWorth = worthOf(set);
                    fewestServed = Integer.bitCount(set);
                }
            }
        }

        private boolean isBetter(int set) {
            int worth = worthOf(set);
            return worth > mostWorth || worth == mostWorth && Integer.bitCount(set) < fewestServed;
        }

        private int worthOf(int set) {
            int worth = 0;
            for (int task = 0; task < TASKS; task++) {
                if (isOf(set, task)) worth += worths[task];
            }
            return worth;
        }

        private boolean canServe(int set, Family family) {
            int with = family.holder;
            int minute = 0;
            int left = set;
            for (int i = 0; i < TASKS && left != 0; i++) {
                int next = earliestOf(left);
                if (!family.lives(with) || !family.lives(kins[next])) return false;
                int steps = family.fewestTies(with, kins[next]);
                if (steps == NONE || steps > minutes[next] - minute) return false;
                with = kins[next];
                minute = minutes[next];
                left &= ~(1 << next);
            }
            return true;
        }

        private int earliestOf(int set) {
            int found = 0;
            int foundMinute = MOST + 1;
            for (int task = 0; task < TASKS; task++) {
                if (isOf(set, task) && minutes[task] < foundMinute) {
                    found = task;
                    foundMinute = minutes[task];
                }
            }
            return found;
        }
    }

    /** Sentences by whether their last letter is one of the set, since all letters of a side are alike. */
    private static final class Sentences {
        private final int[] endIn = new int[LONGEST_SENTENCE + 1];
        private final int[] endOut = new int[LONGEST_SENTENCE + 1];
        private final int[] openIn = new int[LONGEST_TOLD + 1];
        private final int[] openOut = new int[LONGEST_TOLD + 1];

        int countAll(int set, int n, int k) {
            if (n == 0) return 1;
            if (!isIn(k, 0, LONGEST_SENTENCE)) return 0;
            int ins = Integer.bitCount(set);
            int outs = LETTERS - ins;
            Arrays.fill(endIn, 0);
            Arrays.fill(endOut, 0);
            endIn[1] = ins;
            endOut[0] = outs;
            for (int length = 2; length <= n; length++) {
                addLetter(ins, outs);
            }
            return (endIn[k] + endOut[k]) % BY;
        }

        /** From the most on down, so that each place still finds the one below as it was. */
        private void addLetter(int ins, int outs) {
            for (int k = LONGEST_SENTENCE; k >= 0; k--) {
                int nextOut = endIn[k] * outs + endOut[k] * Math.max(0, outs - 1);
                int nextIn = k == 0 ? 0 : endIn[k - 1] * Math.max(0, ins - 1) + endOut[k - 1] * ins;
                endOut[k] = nextOut % BY;
                endIn[k] = nextIn % BY;
            }
        }

        int leastOne(int set, int n, int k) {
            if (!isIn(n, 1, LONGEST_TOLD)) return NONE;
            openWays(Integer.bitCount(set));
            int digits = 0;
            int last = NONE;
            int due = k;
            for (int left = n - 1; left >= 0; left--) {
                last = leastLetter(set, last, due, left);
                if (last == NONE) return NONE;
                if (isOf(set, last)) due--;
                digits = 10 * digits + last;
            }
            return digits;
        }

        /** How often the set can still come, as bits, by how many letters are left behind one of it or another. */
        private void openWays(int ins) {
            int outs = LETTERS - ins;
            openIn[0] = 1;
            openOut[0] = 1;
            for (int left = 1; left <= LONGEST_TOLD; left++) {
                int byIn = openIn[left - 1] << 1;
                int byOut = openOut[left - 1];
                openIn[left] = (ins > 1 ? byIn : 0) | (outs > 0 ? byOut : 0);
                openOut[left] = (ins > 0 ? byIn : 0) | (outs > 1 ? byOut : 0);
            }
        }

        private int leastLetter(int set, int last, int due, int left) {
            if (!isIn(left, 0, LONGEST_TOLD)) return NONE;
            for (int letter = 0; letter < LETTERS; letter++) {
                boolean inSet = isOf(set, letter);
                int open = inSet ? openIn[left] : openOut[left];
                if (letter != last && isOf(open, inSet ? due - 1 : due)) return letter;
            }
            return NONE;
        }
    }

    private static final class Sights {
        final int[] minutes = new int[SIGHTS];
        final int[] kins = new int[SIGHTS];
        final boolean[] silences = new boolean[SIGHTS];
        int count = 0;

        int append(int minute, int kin, boolean silent) {
            if (count >= SIGHTS || count < 0) return FULL;
            minutes[count] = minute;
            kins[count] = kin;
            silences[count] = silent;
            count++;
            return count;
        }

        void copyFrom(Sights other) {
            for (int i = 0; i < SIGHTS; i++) {
                minutes[i] = other.minutes[i];
                kins[i] = other.kins[i];
                silences[i] = other.silences[i];
            }
            count = other.count;
        }
    }

    /** The rounds that all sights allow, each by its code of first KIN, stride and span. */
    private static final class Rounds {
        final int[] codes = new int[ROUNDS];
        final int[] tally = new int[KINS];
        int count = 0;
        int question = NONE;
        int leftAtMost = 0;

        void collect(Sights sights) {
            count = 0;
            for (int f = 0; f < KINS; f++) {
                for (int s = 1; s <= STRIDES; s++) {
                    for (int p = 1; p <= SPANS; p++) {
                        keepIfSeenSo(100 * f + 10 * s + p, sights);
                    }
                }
            }
        }

        private void keepIfSeenSo(int code, Sights sights) {
            for (int i = 0; i < sights.count && i < SIGHTS; i++) {
                boolean silent = holderAt(code, sights.minutes[i]) == sights.kins[i];
                if (silent != sights.silences[i]) return;
            }
            if (isIn(count, 0, ROUNDS - 1)) {
                codes[count] = code;
                count++;
            }
        }

        private static int holderAt(int code, int minute) {
            int span = code % 10;
            if (span < 1) return NONE;
            return (code / 100 + code / 10 % 10 * (minute / span)) % KINS;
        }

        void chooseQuestion() {
            question = NONE;
            leftAtMost = count + 1;
            for (int minute = 0; minute <= LAST_MINUTE; minute++) {
                countHolders(minute);
                for (int kin = 0; kin < KINS; kin++) {
                    int left = Math.max(tally[kin], count - tally[kin]);
                    if (left < leftAtMost) {
                        question = 10 * minute + kin;
                        leftAtMost = left;
                    }
                }
            }
        }

        private void countHolders(int minute) {
            Arrays.fill(tally, 0);
            for (int i = 0; i < count && i < ROUNDS; i++) {
                int kin = holderAt(codes[i], minute);
                if (isKin(kin)) tally[kin]++;
            }
        }
    }

    /** All but the PAD, as it once was. */
    private static final class Image {
        final Family family = new Family();
        final Tasks tasks = new Tasks();
        final Sights sights = new Sights();
        boolean isKept = false;
    }
}
