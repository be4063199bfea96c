import java.util.ArrayList;
import java.util.Comparator;
import java.util.List;
import java.util.regex.Matcher;
import java.util.regex.Pattern;

/** The family and its days once more, written another way, for RandomDaysTest and WholeModel to compare with. */
final class Model {
    private static final Pattern DAYS = Pattern.compile("(?:[A-H](?:>[A-H]|\"[a-j]+\"|=|\\+)|!)*");
    private static final Pattern ACT = Pattern.compile("!|[A-H](?:>[A-H]|\"[a-j]+\"|=|\\+)");

    static final class Person {
        int name, age = 50, breath = 30, letters = 8;
        boolean lives = true;

        Person copy() {
            Person p = new Person();
            p.name = name;
            p.age = age;
            p.breath = breath;
            p.letters = letters;
            p.lives = lives;
            return p;
        }
    }

    List<Person> people = new ArrayList<>();
    boolean[][] tied = new boolean[8][8];
    Person holder;
    int saved = 0;
    int[][] tasks = new int[6][3];
    StringBuilder pad = new StringBuilder();

    int why = 0, stuck = -6, acts = 0, firstAct = -6, firstKin = -6;

    Model() {
        for (int i = 0; i < 8; i++) {
            Person p = new Person();
            p.name = i;
            people.add(p);
        }
        holder = people.get(0);
    }

    /** The ties are shared, as no day changes them. */
    private Model copy() {
        Model m = new Model();
        for (int i = 0; i < 8; i++) m.people.set(i, people.get(i).copy());
        m.tied = tied;
        m.holder = holder == null ? null : m.people.get(holder.name);
        m.saved = saved;
        return m;
    }

    /** All but the PAD, with TIES and TASKS of its own. */
    Model twin() {
        Model m = copy();
        m.tied = new boolean[8][];
        for (int i = 0; i < 8; i++) m.tied[i] = tied[i].clone();
        for (int i = 0; i < 6; i++) m.tasks[i] = tasks[i].clone();
        return m;
    }

    int fault() {
        for (int end = 1; end <= pad.length(); end++) {
            Matcher matcher = DAYS.matcher(pad.substring(0, end));
            if (!matcher.matches() && !matcher.hitEnd()) return end - 1;
        }
        return DAYS.matcher(pad).matches() ? -6 : pad.length();
    }

    private Person oldest(List<Person> among) {
        return among.stream().filter(p -> p.lives)
            .min(Comparator.<Person>comparingInt(p -> -p.age).thenComparingInt(p -> p.name)).orElse(null);
    }

    int oldest() {
        Person p = oldest(people);
        return p == null ? -6 : p.name;
    }

    int holderName() {
        return holder == null ? -6 : holder.name;
    }

    /** The family behind the text, which must be without a FAULT. */
    Model behind() {
        Model m = copy();
        Matcher matcher = ACT.matcher(pad);
        while (matcher.find() && m.stuck == -6) {
            int before = m.saved;
            m.why = m.act(matcher.group());
            if (m.why != 0) {
                m.stuck = m.acts;
            } else {
                if (m.saved > before && m.firstAct == -6) {
                    m.firstAct = m.acts;
                    m.firstKin = matcher.group().charAt(0) - 'A';
                }
                m.acts++;
            }
        }
        return m;
    }

    private int act(String act) {
        if (act.equals("!")) {
            Person heir = oldest(people);
            if (heir == null || heir == holder) return 5;
            holder = heir;
            return 0;
        }
        Person who = people.get(act.charAt(0) - 'A');
        if (!who.lives) return 1;
        switch (act.charAt(1)) {
            case '>': return lend(who, people.get(act.charAt(2) - 'A'));
            case '"': return speak(who, act.substring(2, act.length() - 1));
            case '=': return rest(who);
            default: return die(who);
        }
    }

    private int lend(Person who, Person to) {
        if (!to.lives) return 1;
        if (holder != who) return 2;
        if (!tied[who.name][to.name]) return 3;
        holder = to;
        return 0;
    }

    private int speak(Person who, String letters) {
        for (char letter : letters.toCharArray()) {
            if (who != holder || (who.letters & 1 << letter - 'a') == 0) continue;
            saved += who.breath;
            who.breath = who.breath < 10 ? 0 : who.breath - 10;
        }
        return 0;
    }

    private int rest(Person who) {
        if (who.breath == 99) return 4;
        who.breath = who.breath > 79 ? 99 : who.breath + 20;
        return 0;
    }

    private int die(Person who) {
        who.lives = false;
        if (who != holder) return 0;
        List<Person> near = new ArrayList<>();
        for (Person p : people) if (tied[who.name][p.name]) near.add(p);
        holder = oldest(near);
        if (holder == null) holder = oldest(people);
        return 0;
    }

    void beAs(Model other) {
        people = other.people;
        holder = other.holder;
        saved = other.saved;
        pad.setLength(0);
    }

    int livingBits() {
        int bits = 0;
        for (Person p : people) if (p.lives) bits += 1 << p.name;
        return bits;
    }

    /** All shortest ways at once; 1000 where there is none. */
    int[][] ways() {
        int[][] way = new int[8][8];
        for (int a = 0; a < 8; a++) {
            for (int b = 0; b < 8; b++) {
                boolean both = people.get(a).lives && people.get(b).lives;
                way[a][b] = !both ? 1000 : a == b ? 0 : tied[a][b] ? 1 : 1000;
            }
        }
        for (int m = 0; m < 8; m++) {
            for (int a = 0; a < 8; a++) {
                for (int b = 0; b < 8; b++) way[a][b] = Math.min(way[a][b], way[a][m] + way[m][b]);
            }
        }
        return way;
    }

    int lent(int from, int to, int what) {
        int[][] way = ways();
        int steps = way[from][to];
        if (steps >= 1000) return -6;
        if (what == 0) return steps;
        for (int next = 0; next < 8; next++) {
            if (way[from][next] == 1 && way[next][to] == steps - 1) return next;
        }
        return -6;
    }

    /** Minute by minute, the best that can be had with each who may have it: ten times worth, one less by task. */
    int stay(int what) {
        int[] best = new int[8];
        for (int kin = 0; kin < 8; kin++) best[kin] = holder != null && holder.name == kin ? 0 : -100000;
        int[][] way = ways();
        for (int minute = 0; minute < 100; minute++) {
            int[] next = new int[8];
            for (int kin = 0; kin < 8; kin++) {
                next[kin] = best[kin];
                for (int from = 0; minute > 0 && from < 8; from++) {
                    if (way[from][kin] == 1) next[kin] = Math.max(next[kin], best[from]);
                }
            }
            for (int[] task : tasks) {
                if (task[1] == minute && task[2] > 0) next[task[0]] += 10 * task[2] - 1;
            }
            best = next;
        }
        int most = 0;
        for (int kin = 0; kin < 8; kin++) most = Math.max(most, best[kin]);
        int worth = (most + 9) / 10;
        return what == 0 ? worth : 10 * worth - most;
    }
}
