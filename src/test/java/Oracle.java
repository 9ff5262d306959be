import java.util.ArrayList;
import java.util.List;
import java.util.Set;
import java.util.TreeSet;

/** The document told once more, at length and without care for speed: what DuelSeconds is held against. */
final class Oracle {
    static final int UNKNOWN = -1, OUTSIDE = -2, STATE = -3, FULL = -4, NONE = -9;
    static final long LOST = Long.MIN_VALUE;

    record Person(char letter, int honour, int first, int second) {
        int touchy() {
            int asGentleman = 10 - honour;
            int asHothead = asGentleman - 2 < 1 ? 1 : asGentleman - 2;
            int asOfficer = asHothead - 1 < 1 ? 1 : asHothead - 1;
            return letter == 'g' ? asGentleman : letter == 'h' ? asHothead : asOfficer;
        }
    }

    record Insult(int from, int to, int day, int degree) {
    }

    record Meeting(int dawn, int a, int b, int insulted, int insulter, int hurt, int by) {
        boolean has(int p) {
            return a == p || b == p;
        }
    }

    record Reading(int p, int dawn, boolean was) {
    }

    private List<Person> persons = new ArrayList<>();
    private Set<Integer> arrested = new TreeSet<>();
    private List<Insult> insults = new ArrayList<>();
    private List<Reading> readings = new ArrayList<>();
    private final long[][] rows = new long[4][];
    private final int[] lanes = new int[4];
    private int trace;
    private int fault;

    // ---- how it goes

    private boolean freeAt(int p, int dawn, Set<Integer> held, List<Meeting> met) {
        if (held.contains(p)) {
            return false;
        }
        for (Meeting m : met) {
            if (m.dawn == dawn && m.has(p)) {
                return false;
            }
            if (m.hurt == p && dawn >= m.dawn && dawn < m.dawn + m.by + 2) {
                return false;
            }
        }
        return true;
    }

    private int secondOf(int p, int against, int other, int dawn, Set<Integer> held, List<Meeting> met) {
        Person me = persons.get(p);
        Person one = persons.get(me.first);
        Person two = persons.get(me.second);
        int[] chain = {me.first, me.second, one.first, one.second, two.first, two.second};
        for (int c : chain) {
            if (c != p && c != against && c != other && freeAt(c, dawn, held, met)) {
                return c;
            }
        }
        return NONE;
    }

    private List<Meeting> run(List<Insult> told, Set<Integer> held, int last) {
        List<Meeting> met = new ArrayList<>();
        List<Insult> taken = new ArrayList<>();
        for (int dawn = 0; dawn <= last; dawn++) {
            List<Insult> due = new ArrayList<>();
            for (Insult one : told) {
                if (one.day == dawn - 1) {
                    due.add(one);
                }
            }
            for (Insult one : taken) {
                if (one.day == dawn - 1) {
                    due.add(one);
                }
            }
            for (Insult one : due) {
                if (one.degree < persons.get(one.to).touchy()) {
                    continue;
                }
                int a = secondOf(one.to, one.from, NONE, dawn, held, met);
                int b = a == NONE ? NONE : secondOf(one.from, one.to, a, dawn, held, met);
                if (b == NONE) {
                    continue;
                }
                int honourA = persons.get(a).honour;
                int honourB = persons.get(b).honour;
                int hurt = honourA < honourB ? a : honourB < honourA ? b : NONE;
                int by = honourA < honourB ? honourB - honourA : honourA - honourB;
                met.add(new Meeting(dawn, a, b, one.to, one.from, hurt, by));
                if (hurt != NONE) {
                    int friend = persons.get(hurt).first;
                    int winner = hurt == a ? b : a;
                    if (friend != winner) {
                        taken.add(new Insult(winner, friend, dawn, by));
                    }
                }
            }
        }
        return met;
    }

    private List<Insult> without(int k) {
        List<Insult> less = new ArrayList<>(insults);
        less.remove(k);
        return less;
    }

    private Set<Integer> with(int mask) {
        Set<Integer> more = new TreeSet<>(arrested);
        for (int p = 0; p < persons.size(); p++) {
            if ((mask & 1 << p) != 0) {
                more.add(p);
            }
        }
        return more;
    }

    private boolean allSo(List<Meeting> met) {
        for (Reading r : readings) {
            boolean was = false;
            for (Meeting m : met) {
                was |= m.dawn == r.dawn && m.has(r.p);
            }
            if (was != r.was) {
                return false;
            }
        }
        return true;
    }

    // ---- the calls

    private boolean no(int p) {
        return p < 0 || p >= persons.size();
    }

    private static boolean noDawn(int dawn) {
        return dawn < 0 || dawn > 59;
    }

    private static boolean noSheet(int k) {
        return k < 0 || k > 3;
    }

    private int fails(int which) {
        fault = which;
        return -10 - which;
    }

    private int rowFault(int k, int lane, int i, int n) {
        if (rows[k] == null) {
            return 1;
        }
        if (lanes[k] != lane) {
            return 2;
        }
        if (n < 0) {
            return 4;
        }
        return i < 0 || (long) i + n > rows[k].length ? 3 : 0;
    }

    int coast(int k, int lane, int i, int n) {
        fault = 0;
        if (noSheet(k)) {
            return UNKNOWN;
        }
        if (lane < 0 || lane > 2) {
            return OUTSIDE;
        }
        int come = rowFault(k, lane, i, n);
        if (come != 0) {
            return fails(come);
        }
        long[] codes = new long[n];
        System.arraycopy(rows[k], i, codes, 0, n);
        List<Person> read = new ArrayList<>();
        int at = parse(codes, read);
        if (at >= 0) {
            return -100 - at;
        }
        persons = read;
        arrested = new TreeSet<>();
        insults = new ArrayList<>();
        readings = new ArrayList<>();
        return persons.size();
    }

    private static int parse(long[] codes, List<Person> read) {
        int at = 0;
        if (codes.length == at || codes[at] != 100) {
            return at;
        }
        at++;
        if (codes.length == at || codes[at] < 50 || codes[at] > 54) {
            return at;
        }
        long d = codes[at] - 48;
        at++;
        for (int p = 0; p < d; p++) {
            if (codes.length == at || codes[at] != 59) {
                return at;
            }
            at++;
            if (codes.length == at || codes[at] != 103 && codes[at] != 104 && codes[at] != 111) {
                return at;
            }
            char letter = (char) codes[at];
            at++;
            if (codes.length == at || codes[at] < 49 || codes[at] > 57) {
                return at;
            }
            int honour = (int) codes[at] - 48;
            at++;
            int[] friends = new int[2];
            for (int f = 0; f < 2; f++) {
                if (codes.length == at || codes[at] < 48 || codes[at] >= 48 + d || codes[at] == 48 + p) {
                    return at;
                }
                friends[f] = (int) codes[at] - 48;
                at++;
            }
            read.add(new Person(letter, honour, friends[0], friends[1]));
        }
        return at < codes.length ? at : -1;
    }

    int ofPerson(int p, int what) {
        if (no(p)) {
            return UNKNOWN;
        }
        if (what < 0 || what > 5) {
            return OUTSIDE;
        }
        Person it = persons.get(p);
        return new int[] {"gho".indexOf(it.letter), it.honour, it.first, it.second, it.touchy(),
            arrested.contains(p) ? 1 : 0}[what];
    }

    int insult(int from, int to, int day, int degree) {
        if (no(from) || no(to) || from == to) {
            return UNKNOWN;
        }
        if (day < 0 || day > 29 || degree < 1 || degree > 9) {
            return OUTSIDE;
        }
        if (insults.size() == 8) {
            return FULL;
        }
        insults.add(new Insult(from, to, day, degree));
        return insults.size() - 1;
    }

    int sorry(int k) {
        if (k < 0 || k > insults.size()) {
            return OUTSIDE;
        }
        insults = new ArrayList<>(insults.subList(0, insults.size() - k));
        return insults.size();
    }

    int arrest(int p, boolean is) {
        if (no(p)) {
            return UNKNOWN;
        }
        return (is ? arrested.add(p) : arrested.remove(p)) ? 1 : 0;
    }

    int meetings(int dawn) {
        if (noDawn(dawn)) {
            return OUTSIDE;
        }
        return persons.isEmpty() ? STATE : run(insults, arrested, dawn).size();
    }

    int met(int k, int what) {
        List<Meeting> met = run(insults, arrested, 59);
        if (k < 0 || k >= met.size()) {
            return UNKNOWN;
        }
        if (what < 0 || what > 5) {
            return OUTSIDE;
        }
        Meeting m = met.get(k);
        return new int[] {m.dawn, m.a, m.b, m.insulted, m.insulter, m.hurt}[what];
    }

    int free(int p, int dawn) {
        if (no(p)) {
            return UNKNOWN;
        }
        if (noDawn(dawn)) {
            return OUTSIDE;
        }
        return freeAt(p, dawn, arrested, run(insults, arrested, dawn - 1)) ? 1 : 0;
    }

    int second(int p, int against, int dawn) {
        if (no(p) || no(against) || p == against) {
            return UNKNOWN;
        }
        if (noDawn(dawn)) {
            return OUTSIDE;
        }
        return secondOf(p, against, NONE, dawn, arrested, run(insults, arrested, dawn - 1));
    }

    int worth(int k) {
        if (k < 0 || k >= insults.size()) {
            return UNKNOWN;
        }
        return run(insults, arrested, 59).size() - run(without(k), arrested, 59).size() + 1000;
    }

    int arrests(int dawn) {
        if (noDawn(dawn)) {
            return OUTSIDE;
        }
        if (persons.isEmpty()) {
            return STATE;
        }
        for (int size = 0; size <= persons.size(); size++) {
            for (int mask = 0; mask < 1 << persons.size(); mask++) {
                if (Integer.bitCount(mask) == size && run(insults, with(mask), dawn).isEmpty()) {
                    return mask;
                }
            }
        }
        throw new IllegalStateException();
    }

    int provoked(int p, int other, int day) {
        if (no(p) || no(other) || p == other) {
            return UNKNOWN;
        }
        if (day < 0 || day > 29) {
            return OUTSIDE;
        }
        for (int number = 0; number < 600; number++) {
            int from = number / 100;
            int to = number / 10 % 10;
            int degree = number % 10;
            if (no(from) || no(to) || from == to || degree == 0) {
                continue;
            }
            List<Insult> more = new ArrayList<>(insults);
            more.add(new Insult(from, to, day, degree));
            for (Meeting m : run(more, arrested, 59)) {
                if (m.dawn > day && m.has(p) && m.has(other)) {
                    return number;
                }
            }
        }
        return NONE;
    }

    long odds(int p, int dawn, int which) {
        if (no(p) || noDawn(dawn) || which < 0 || which > 1) {
            return LOST;
        }
        long upper = 0;
        long lower = 0;
        for (int mask = 0; mask < 1 << insults.size(); mask++) {
            List<Insult> made = new ArrayList<>();
            for (int k = 0; k < insults.size(); k++) {
                if ((mask & 1 << k) != 0) {
                    made.add(insults.get(k));
                }
            }
            lower++;
            for (Meeting m : run(made, arrested, dawn)) {
                if (m.hurt == p) {
                    upper++;
                    break;
                }
            }
        }
        long a = upper;
        long b = lower;
        while (b != 0) {
            long rest = a % b;
            a = b;
            b = rest;
        }
        return which == 0 ? upper / a : lower / a;
    }

    int reading(int p, int dawn, boolean was) {
        if (no(p)) {
            return UNKNOWN;
        }
        if (noDawn(dawn)) {
            return OUTSIDE;
        }
        if (readings.size() == 8) {
            return FULL;
        }
        readings.add(new Reading(p, dawn, was));
        return readings.size() - 1;
    }

    int back(int k) {
        if (k < 0 || k > readings.size()) {
            return OUTSIDE;
        }
        readings = new ArrayList<>(readings.subList(0, readings.size() - k));
        return readings.size();
    }

    int never() {
        if (persons.isEmpty()) {
            return STATE;
        }
        int set = 0;
        for (int k = 0; k < insults.size(); k++) {
            set += allSo(run(without(k), arrested, 59)) ? 1 << k : 0;
        }
        return set;
    }

    int caught() {
        if (persons.isEmpty()) {
            return STATE;
        }
        int set = 0;
        for (int p = 0; p < persons.size(); p++) {
            set += allSo(run(insults, with(1 << p), 59)) ? 1 << p : 0;
        }
        return set;
    }

    int row(int k, int lane, int i, int n) {
        fault = 0;
        if (noSheet(k)) {
            return UNKNOWN;
        }
        if (lane < 0 || lane > 2) {
            return OUTSIDE;
        }
        int come = rowFault(k, lane, i, n);
        if (come != 0) {
            return fails(come);
        }
        if (persons.isEmpty()) {
            return STATE;
        }
        for (int at = i; at < i + n; at++) {
            if (rows[k][at] < 0 || rows[k][at] >= persons.size()) {
                return UNKNOWN;
            }
        }
        int many = 0;
        while (many < n && free((int) rows[k][i + many], many) == 1) {
            many++;
        }
        return many;
    }

    int sheet(int k, int lane, int n) {
        fault = 0;
        if (noSheet(k)) {
            return UNKNOWN;
        }
        if (lane < 0 || lane > 2 || n > 50) {
            return OUTSIDE;
        }
        if (n < 0) {
            return fails(4);
        }
        rows[k] = new long[n];
        lanes[k] = lane;
        return 1;
    }

    int lose(int k) {
        if (noSheet(k)) {
            return UNKNOWN;
        }
        int had = rows[k] == null ? 0 : 1;
        rows[k] = null;
        return had;
    }

    int put(int k, int i, int v) {
        fault = 0;
        if (noSheet(k)) {
            return UNKNOWN;
        }
        if (rows[k] == null) {
            return fails(1);
        }
        if (i < 0 || i >= rows[k].length) {
            return fails(3);
        }
        int away = new int[] {24, 16, 0}[lanes[k]];
        rows[k][i] = v << away >> away;
        return 1;
    }

    long cell(int k, int i, int lane) {
        fault = 0;
        if (noSheet(k) || lane < 0 || lane > 2) {
            return LOST;
        }
        int come = rowFault(k, lane, i, 1);
        if (come != 0) {
            fails(come);
            return LOST;
        }
        return rows[k][i];
    }

    int copy(int k, int i, int other, int j, int n) {
        fault = 0;
        if (noSheet(k) || noSheet(other)) {
            return UNKNOWN;
        }
        if (rows[k] == null || rows[other] == null) {
            return fails(1);
        }
        if (lanes[k] != lanes[other]) {
            return fails(2);
        }
        if (i < 0 || j < 0 || n < 0 || (long) i + n > rows[k].length || (long) j + n > rows[other].length) {
            return fails(3);
        }
        long[] were = rows[k].clone();
        for (int at = 0; at < n; at++) {
            rows[other][j + at] = were[i + at];
        }
        return n;
    }

    int tell(int p) {
        return no(p) ? UNKNOWN : body(p, "gho".indexOf(persons.get(p).letter));
    }

    private int body(int p, int kind) {
        trace = 31 * trace + kind + 1;
        if (kind == 0) {
            return persons.get(p).honour;
        }
        int above = body(p, kind - 1);
        return kind == 1 ? above + 100 : above + body(p, 0);
    }

    int salute(int p) {
        if (no(p)) {
            return UNKNOWN;
        }
        boolean own = persons.get(p).letter == 'o';
        trace = 31 * trace + (own ? 5 : 4);
        return own ? 80 : p;
    }

    int as(int p, int kind) {
        fault = 0;
        if (no(p)) {
            return UNKNOWN;
        }
        if (kind < 0 || kind > 2) {
            return OUTSIDE;
        }
        String are = new String[] {"gho", "ho", "o"}[kind];
        return are.indexOf(persons.get(p).letter) >= 0 ? 1 : fails(2);
    }

    int trace() {
        return trace;
    }

    int fault() {
        return fault;
    }

    int many(int what) {
        switch (what) {
            case 0: return persons.size();
            case 1: return insults.size();
            case 2: return readings.size();
            case 3: return run(insults, arrested, 59).size();
            default: return OUTSIDE;
        }
    }
}
