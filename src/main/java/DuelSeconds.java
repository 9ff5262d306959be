import java.util.Arrays;

/**
 * Seconds for a duel: persons of kinds, told in a text, with honour and two friends each; insults,
 * the meetings that come of them, and what can be asked of both. The document tells every call.
 */
public final class DuelSeconds {
    public static final int UNKNOWN = -1, OUTSIDE = -2, STATE = -3, FULL = -4, NONE = -9;
    public static final long LOST = Long.MIN_VALUE;

    private static final int NULL = 1, CAST = 2, INDEX = 3, SIZE = 4;
    private static final int GENTLEMAN = 0, HOTHEAD = 1, OFFICER = 2, KINDS = 3;
    private static final int MOST_PERSONS = 6, MOST_INSULTS = 8, MOST_READINGS = 8;
    private static final int DAYS = 30, DAWNS = 60, LAST_DAWN = DAWNS - 1, MOST_DEGREE = 9;
    private static final int SHEETS = 4, LANES = 3, BYTES = 0, SHORTS = 1, MOST_CELLS = 50;
    // Of six persons at most three pairs meet at a dawn.
    private static final int MOST_MEETINGS = DAWNS * MOST_PERSONS / 2;
    private static final int OF_MEETING = 6;
    private static final int EVERY_INSULT = -1;

    private final Persons persons;
    // One place more than can be told: for the insult that provoked() tries.
    private final Insults told;
    private final Readings readings;
    private final Season season;
    private final Sheet[] sheets;
    private int trace;
    private int fault;

    public DuelSeconds() {
        persons = new Persons();
        told = new Insults(MOST_INSULTS + 1);
        readings = new Readings();
        season = new Season(persons, told);
        sheets = new Sheet[SHEETS];
        for (int k = 0; k < SHEETS; k++) {
            sheets[k] = new Sheet();
        }
    }

    // ---- 1 the coast

    public int coast(int sheet, int lane, int i, int n) {
        fault = 0;
        Sheet from = sheetOf(sheet);
        if (from == null) {
            return UNKNOWN;
        }
        if (!isLane(lane)) {
            return OUTSIDE;
        }
        int come = from.faultOfTaking(lane, i, n);
        if (come != 0) {
            return faulted(come);
        }
        int wrong = Text.firstFault(from, i, n);
        if (wrong != NONE) {
            return -100 - wrong;
        }
        Text.read(from, i, persons);
        told.count = 0;
        readings.count = 0;
        return persons.count;
    }

    public int ofPerson(int p, int what) {
        if (!persons.has(p)) {
            return UNKNOWN;
        }
        switch (what) {
            case 0:
                return persons.kind[p];
            case 1:
                return persons.honour[p];
            case 2:
                return persons.firstFriend[p];
            case 3:
                return persons.secondFriend[p];
            case 4:
                return persons.touchiness(p);
            case 5:
                return in(persons.arrested, p) ? 1 : 0;
            default:
                return OUTSIDE;
        }
    }

    public int insult(int from, int to, int day, int degree) {
        if (!persons.hasTwo(from, to)) {
            return UNKNOWN;
        }
        if (!isDay(day) || degree < 1 || degree > MOST_DEGREE) {
            return OUTSIDE;
        }
        if (told.count >= MOST_INSULTS) {
            return FULL;
        }
        told.add(from, to, day, degree);
        return told.count - 1;
    }

    public int sorry(int k) {
        if (k < 0 || k > told.count) {
            return OUTSIDE;
        }
        told.count -= k;
        return told.count;
    }

    public int arrest(int p, boolean is) {
        if (!persons.has(p)) {
            return UNKNOWN;
        }
        if (in(persons.arrested, p) == is) {
            return 0;
        }
        persons.arrested ^= bit(p);
        return 1;
    }

    // ---- 2 meetings

    public int meetings(int dawn) {
        if (!isDawn(dawn)) {
            return OUTSIDE;
        }
        if (isEmpty()) {
            return STATE;
        }
        season.live(EVERY_INSULT, persons.arrested, dawn);
        return season.log.count;
    }

    public int met(int k, int what) {
        season.live(EVERY_INSULT, persons.arrested, LAST_DAWN);
        if (k < 0 || k >= season.log.count) {
            return UNKNOWN;
        }
        if (what < 0 || what >= OF_MEETING) {
            return OUTSIDE;
        }
        return season.log.facts[what][k];
    }

    public int free(int p, int dawn) {
        if (!persons.has(p)) {
            return UNKNOWN;
        }
        if (!isDawn(dawn)) {
            return OUTSIDE;
        }
        season.live(EVERY_INSULT, persons.arrested, dawn - 1);
        return in(season.freeAhead(dawn), p) ? 1 : 0;
    }

    public int second(int p, int against, int dawn) {
        if (!persons.hasTwo(p, against)) {
            return UNKNOWN;
        }
        if (!isDawn(dawn)) {
            return OUTSIDE;
        }
        season.live(EVERY_INSULT, persons.arrested, dawn - 1);
        return persons.secondAmong(p, season.freeAhead(dawn) & ~(bit(p) | bit(against)));
    }

    // ---- 3 apologies, arrests

    public int worth(int k) {
        if (k < 0 || k >= told.count) {
            return UNKNOWN;
        }
        season.live(EVERY_INSULT, persons.arrested, LAST_DAWN);
        int with = season.log.count;
        season.live(~bit(k), persons.arrested, LAST_DAWN);
        return with - season.log.count + 1000;
    }

    public int arrests(int dawn) {
        if (!isDawn(dawn)) {
            return OUTSIDE;
        }
        if (isEmpty()) {
            return STATE;
        }
        int fewest = bit(persons.count) - 1;
        for (int set = 0; set < bit(persons.count); set++) {
            // Sets come from the least on: of as many persons the earlier one stays.
            if (Integer.bitCount(set) < Integer.bitCount(fewest)) {
                season.live(EVERY_INSULT, persons.arrested | set, dawn);
                if (season.log.count == 0) {
                    fewest = set;
                }
            }
        }
        return fewest;
    }

    public int provoked(int p, int other, int day) {
        if (!persons.hasTwo(p, other)) {
            return UNKNOWN;
        }
        if (!isDay(day)) {
            return OUTSIDE;
        }
        for (int from = 0; from < persons.count; from++) {
            for (int to = 0; to < persons.count; to++) {
                int degree = from == to ? 0 : provokingDegree(from, to, day, bit(p) | bit(other));
                if (degree > 0) {
                    return 100 * from + 10 * to + degree;
                }
            }
        }
        return NONE;
    }

    /** The least degree of an insult more by which the pair meets behind its day; 0: there is none. */
    private int provokingDegree(int from, int to, int day, int pair) {
        for (int degree = 1; degree <= MOST_DEGREE; degree++) {
            told.add(from, to, day, degree);
            season.live(EVERY_INSULT, persons.arrested, LAST_DAWN);
            told.count--;
            if (season.log.pairMetBehind(pair, day)) {
                return degree;
            }
        }
        return 0;
    }

    // ---- 4 odds, what was seen

    public long odds(int p, int dawn, int which) {
        if (!persons.has(p) || !isDawn(dawn) || which < 0 || which > 1) {
            return LOST;
        }
        int lower = bit(told.count);
        int upper = 0;
        for (int made = 0; made < bit(told.count); made++) {
            season.live(made, persons.arrested, dawn);
            if (in(season.hurt, p)) {
                upper++;
            }
        }
        // The lower number is a power of two: halving is all that shortens the share.
        for (int turn = 0; turn < MOST_INSULTS; turn++) {
            if (upper % 2 == 0 && lower % 2 == 0) {
                upper /= 2;
                lower /= 2;
            }
        }
        return which == 0 ? upper : lower;
    }

    public int reading(int p, int dawn, boolean was) {
        if (!persons.has(p)) {
            return UNKNOWN;
        }
        if (!isDawn(dawn)) {
            return OUTSIDE;
        }
        if (readings.count >= MOST_READINGS) {
            return FULL;
        }
        readings.add(p, dawn, was);
        return readings.count - 1;
    }

    public int back(int k) {
        if (k < 0 || k > readings.count) {
            return OUTSIDE;
        }
        readings.count -= k;
        return readings.count;
    }

    public int never() {
        if (isEmpty()) {
            return STATE;
        }
        int set = 0;
        for (int k = 0; k < told.count; k++) {
            season.live(~bit(k), persons.arrested, LAST_DAWN);
            if (readings.areSo(season.log)) {
                set |= bit(k);
            }
        }
        return set;
    }

    public int caught() {
        if (isEmpty()) {
            return STATE;
        }
        int set = 0;
        for (int p = 0; p < persons.count; p++) {
            season.live(EVERY_INSULT, persons.arrested | bit(p), LAST_DAWN);
            if (readings.areSo(season.log)) {
                set |= bit(p);
            }
        }
        return set;
    }

    public int row(int sheet, int lane, int i, int n) {
        fault = 0;
        Sheet from = sheetOf(sheet);
        if (from == null) {
            return UNKNOWN;
        }
        if (!isLane(lane)) {
            return OUTSIDE;
        }
        int come = from.faultOfTaking(lane, i, n);
        if (come != 0) {
            return faulted(come);
        }
        if (isEmpty()) {
            return STATE;
        }
        for (int k = 0; k < n; k++) {
            if (!persons.has(from.at(i + k))) {
                return UNKNOWN;
            }
        }
        return freeInTurn(from, i, n);
    }

    /** How many of n persons, from the first on, are free, the one in place k at dawn k. */
    private int freeInTurn(Sheet from, int i, int n) {
        season.begin(EVERY_INSULT, persons.arrested);
        for (int k = 0; k < n; k++) {
            if (!in(season.freeAhead(k), from.at(i + k))) {
                return k;
            }
            season.pass(k);
        }
        return n;
    }

    // ---- 5 sheets, parts

    public int sheet(int k, int lane, int n) {
        fault = 0;
        Sheet it = sheetOf(k);
        if (it == null) {
            return UNKNOWN;
        }
        if (!isLane(lane) || n > MOST_CELLS) {
            return OUTSIDE;
        }
        if (n < 0) {
            return faulted(SIZE);
        }
        it.renew(lane, n);
        return 1;
    }

    public int lose(int k) {
        Sheet it = sheetOf(k);
        if (it == null) {
            return UNKNOWN;
        }
        if (!it.hasRow) {
            return 0;
        }
        it.hasRow = false;
        return 1;
    }

    public int put(int k, int i, int v) {
        fault = 0;
        Sheet it = sheetOf(k);
        if (it == null) {
            return UNKNOWN;
        }
        if (!it.hasRow) {
            return faulted(NULL);
        }
        if (!it.holds(i, 1)) {
            return faulted(INDEX);
        }
        it.cells[i] = cut(v, it.lane);
        return 1;
    }

    public long cell(int k, int i, int lane) {
        fault = 0;
        Sheet it = sheetOf(k);
        if (it == null || !isLane(lane)) {
            return LOST;
        }
        int come = it.faultOfTaking(lane, i, 1);
        if (come != 0) {
            fault = come;
            return LOST;
        }
        return it.at(i);
    }

    public int copy(int k, int i, int other, int j, int n) {
        fault = 0;
        Sheet from = sheetOf(k);
        Sheet to = sheetOf(other);
        if (from == null || to == null) {
            return UNKNOWN;
        }
        if (!from.hasRow || !to.hasRow) {
            return faulted(NULL);
        }
        if (from.lane != to.lane) {
            return faulted(CAST);
        }
        if (!from.holds(i, n) || !to.holds(j, n)) {
            return faulted(INDEX);
        }
        System.arraycopy(from.cells, i, to.cells, j, n);
        return n;
    }

    public int tell(int p) {
        if (!persons.has(p)) {
            return UNKNOWN;
        }
        switch (persons.kind[p]) {
            case OFFICER:
                return tellOfficer(p);
            case HOTHEAD:
                return tellHothead(p);
            default:
                return tellGentleman(p);
        }
    }

    public int salute(int p) {
        if (!persons.has(p)) {
            return UNKNOWN;
        }
        return persons.kind[p] == OFFICER ? saluteOfficer() : saluteByLentBody(p);
    }

    public int as(int p, int kind) {
        fault = 0;
        if (!persons.has(p)) {
            return UNKNOWN;
        }
        if (kind < 0 || kind >= KINDS) {
            return OUTSIDE;
        }
        // Each kind is also all the kinds of a lesser number.
        return persons.kind[p] >= kind ? 1 : faulted(CAST);
    }

    public int trace() {
        return trace;
    }

    public int fault() {
        return fault;
    }

    public int many(int what) {
        switch (what) {
            case 0:
                return persons.count;
            case 1:
                return told.count;
            case 2:
                return readings.count;
            case 3:
                season.live(EVERY_INSULT, persons.arrested, LAST_DAWN);
                return season.log.count;
            default:
                return OUTSIDE;
        }
    }

    // ---- the bodies by which persons are told and saluted

    private int tellGentleman(int p) {
        leave(1);
        return persons.honour[p];
    }

    private int tellHothead(int p) {
        leave(2);
        return tellGentleman(p) + 100;
    }

    private int tellOfficer(int p) {
        leave(3);
        int asHothead = tellHothead(p);
        return asHothead + tellGentleman(p);
    }

    private int saluteByLentBody(int p) {
        leave(4);
        return p;
    }

    private int saluteOfficer() {
        leave(5);
        return 80;
    }

    private void leave(int number) {
        trace = 31 * trace + number;
    }

    // ---- what several calls need

    private boolean isEmpty() {
        return persons.count == 0;
    }

    private Sheet sheetOf(int k) {
        return k >= 0 && k < SHEETS ? sheets[k] : null;
    }

    private int faulted(int which) {
        fault = which;
        return -10 - which;
    }

    private static boolean isLane(int lane) {
        return lane >= 0 && lane < LANES;
    }

    private static boolean isDay(int day) {
        return day >= 0 && day < DAYS;
    }

    private static boolean isDawn(int dawn) {
        return dawn >= 0 && dawn < DAWNS;
    }

    private static int bit(int number) {
        return 1 << number;
    }

    private static boolean in(int set, int number) {
        return (set >> number & 1) == 1;
    }

    private static int cut(int v, int lane) {
        switch (lane) {
            case BYTES:
                return (byte) v;
            case SHORTS:
                return (short) v;
            default:
                return v;
        }
    }

    /** What is a sheet: nothing, or a row of cells of a lane. */
    private static final class Sheet {
        boolean hasRow;
        int lane;
        private int length;
        final int[] cells = new int[MOST_CELLS];

        void renew(int ofLane, int n) {
            hasRow = true;
            lane = ofLane;
            length = Math.max(0, Math.min(MOST_CELLS, n));
            Arrays.fill(cells, 0);
        }

        /** Whether n cells from i on are there. */
        boolean holds(int i, int n) {
            return i >= 0 && i <= length && n >= 0 && n <= length - i;
        }

        int at(int i) {
            return i >= 0 && i < length ? cells[i] : 0;
        }

        /** The fault to which it comes that n cells from i on are taken as a row of a lane, or 0. */
        int faultOfTaking(int asLane, int i, int n) {
            if (!hasRow) {
                return NULL;
            }
            if (lane != asLane) {
                return CAST;
            }
            if (n < 0) {
                return SIZE;
            }
            return holds(i, n) ? 0 : INDEX;
        }
    }

    /** The persons of the coast; none of them as long as there is no coast. */
    private static final class Persons {
        int count;
        int arrested;
        final int[] kind = new int[MOST_PERSONS];
        final int[] honour = new int[MOST_PERSONS];
        final int[] firstFriend = new int[MOST_PERSONS];
        final int[] secondFriend = new int[MOST_PERSONS];

        boolean has(int p) {
            return p >= 0 && p < count;
        }

        boolean hasTwo(int p, int other) {
            return has(p) && has(other) && p != other;
        }

        int touchiness(int p) {
            int asGentleman = 10 - honour[p];
            int asHothead = Math.max(1, asGentleman - 2);
            switch (kind[p]) {
                case OFFICER:
                    return Math.max(1, asHothead - 1);
                case HOTHEAD:
                    return asHothead;
                default:
                    return asGentleman;
            }
        }

        /** The first one along the chains of p's friends that is among the open ones, or NONE. */
        int secondAmong(int p, int open) {
            int a = firstFriend[p];
            int b = secondFriend[p];
            if (in(open, a)) {
                return a;
            }
            if (in(open, b)) {
                return b;
            }
            if (in(open, firstFriend[a])) {
                return firstFriend[a];
            }
            if (in(open, secondFriend[a])) {
                return secondFriend[a];
            }
            if (in(open, firstFriend[b])) {
                return firstFriend[b];
            }
            return in(open, secondFriend[b]) ? secondFriend[b] : NONE;
        }
    }

    /** How a text of a coast is looked through, and read. */
    private static final class Text {
        private static final int AHEAD = 2, EACH = 5;

        /** The place of the first code with which no text goes on, or NONE. */
        static int firstFault(Sheet from, int i, int n) {
            for (int place = 0; place < n; place++) {
                if (!goesOn(from, i, place)) {
                    return place;
                }
            }
            boolean isWhole = n >= AHEAD && n == AHEAD + EACH * digit(from.at(i + 1));
            return isWhole ? NONE : n;
        }

        private static boolean goesOn(Sheet from, int i, int place) {
            int code = from.at(i + place);
            if (place == 0) {
                return code == 'd';
            }
            if (place == 1) {
                return code >= '2' && code <= '6';
            }
            int count = digit(from.at(i + 1));
            int p = (place - AHEAD) / EACH;
            if (p >= count) {
                return false;
            }
            switch ((place - AHEAD) % EACH) {
                case 0:
                    return code == ';';
                case 1:
                    return kindOf(code) != NONE;
                case 2:
                    return code >= '1' && code <= '9';
                default:
                    return code >= '0' && digit(code) < count && digit(code) != p;
            }
        }

        private static int digit(int code) {
            return code - '0';
        }

        private static int kindOf(int letter) {
            switch (letter) {
                case 'g':
                    return GENTLEMAN;
                case 'h':
                    return HOTHEAD;
                case 'o':
                    return OFFICER;
                default:
                    return NONE;
            }
        }

        /** Makes the persons anew by a text that has no fault. */
        static void read(Sheet from, int i, Persons persons) {
            persons.count = Math.max(0, Math.min(MOST_PERSONS, digit(from.at(i + 1))));
            persons.arrested = 0;
            for (int p = 0; p < persons.count; p++) {
                int start = i + AHEAD + EACH * p;
                persons.kind[p] = kindOf(from.at(start + 1));
                persons.honour[p] = digit(from.at(start + 2));
                persons.firstFriend[p] = digit(from.at(start + 3));
                persons.secondFriend[p] = digit(from.at(start + 4));
            }
        }
    }

    /** Insults in their order, as many as there is room for. */
    private static final class Insults {
        int count;
        final int[] from;
        final int[] to;
        final int[] day;
        final int[] degree;

        Insults(int most) {
            from = new int[most];
            to = new int[most];
            day = new int[most];
            degree = new int[most];
        }

        void add(int maker, int target, int onDay, int ofDegree) {
            if (count < from.length) {
                from[count] = maker;
                to[count] = target;
                day[count] = onDay;
                degree[count] = ofDegree;
                count++;
            }
        }
    }

    /** What was seen: that a person was in a meeting at a dawn, or not. */
    private static final class Readings {
        int count;
        private final int[] person = new int[MOST_READINGS];
        private final int[] dawn = new int[MOST_READINGS];
        private final boolean[] was = new boolean[MOST_READINGS];

        void add(int p, int atDawn, boolean wasThere) {
            if (count < MOST_READINGS) {
                person[count] = p;
                dawn[count] = atDawn;
                was[count] = wasThere;
                count++;
            }
        }

        boolean areSo(Log log) {
            for (int k = 0; k < count; k++) {
                if (log.wasThere(person[k], dawn[k]) != was[k]) {
                    return false;
                }
            }
            return true;
        }
    }

    /** The meetings as they came: a row each for dawn, both seconds, insulted, insulter, hurt. */
    private static final class Log {
        int count;
        final int[][] facts = new int[OF_MEETING][MOST_MEETINGS];

        void add(int dawn, int ofInsulted, int ofInsulter, int insulted, int insulter, int hurt) {
            if (count < MOST_MEETINGS) {
                facts[0][count] = dawn;
                facts[1][count] = ofInsulted;
                facts[2][count] = ofInsulter;
                facts[3][count] = insulted;
                facts[4][count] = insulter;
                facts[5][count] = hurt;
                count++;
            }
        }

        private int pairOf(int k) {
            return bit(facts[1][k]) | bit(facts[2][k]);
        }

        boolean wasThere(int p, int dawn) {
            for (int k = 0; k < count; k++) {
                if (facts[0][k] == dawn && in(pairOf(k), p)) {
                    return true;
                }
            }
            return false;
        }

        boolean pairMetBehind(int pair, int day) {
            for (int k = 0; k < count; k++) {
                if (facts[0][k] > day && pairOf(k) == pair) {
                    return true;
                }
            }
            return false;
        }
    }

    /** One run through the dawns, by some of the told insults and with some persons arrested. */
    private static final class Season {
        final Log log = new Log();
        /** Who was hurt by now, as a set. */
        int hurt;
        private final Persons persons;
        private final Insults told;
        private final Insults taken = new Insults(MOST_MEETINGS);
        /** How many of the taken insults have had their dawn. */
        private int passed;
        private final int[] wellFrom = new int[MOST_PERSONS];
        private int made;
        /** The days of the insults that are made: other dawns can be left out. */
        private long days;
        private int arrested;
        private int free;

        Season(Persons persons, Insults told) {
            this.persons = persons;
            this.told = told;
        }

        /** All dawns up to the last one told (none, where it is below 0). */
        void live(int insults, int inArrest, int last) {
            begin(insults, inArrest);
            for (int dawn = 0; dawn <= last; dawn++) {
                pass(dawn);
            }
        }

        void begin(int insults, int inArrest) {
            made = insults;
            arrested = inArrest;
            days = 0;
            for (int k = 0; k < told.count; k++) {
                if (in(made, k)) {
                    days |= 1L << told.day[k];
                }
            }
            log.count = 0;
            taken.count = 0;
            passed = 0;
            hurt = 0;
            Arrays.fill(wellFrom, 0);
        }

        /** The dawn that comes behind the one passed last (0 is the first). */
        void pass(int dawn) {
            boolean hasTold = dawn > 0 && (days >> (dawn - 1) & 1) == 1;
            if (!hasTold && passed == taken.count) {
                return;
            }
            // What is taken from here on is of this dawn's day: it waits for the next dawn.
            int due = taken.count;
            free = freeAhead(dawn);
            for (int k = 0; k < told.count; k++) {
                if (in(made, k) && told.day[k] == dawn - 1) {
                    answer(told, k, dawn);
                }
            }
            for (int k = passed; k < due; k++) {
                answer(taken, k, dawn);
            }
            passed = due;
        }

        /** Who is free at a dawn ahead of its meetings, as a set: the dawns ahead of it have passed. */
        int freeAhead(int dawn) {
            int set = 0;
            for (int p = 0; p < persons.count; p++) {
                if (!in(arrested, p) && wellFrom[p] <= dawn) {
                    set |= bit(p);
                }
            }
            return set;
        }

        private void answer(Insults insults, int k, int dawn) {
            int insulter = insults.from[k];
            int insulted = insults.to[k];
            if (insults.degree[k] < persons.touchiness(insulted)) {
                return;
            }
            int open = free & ~(bit(insulter) | bit(insulted));
            int ofInsulted = persons.secondAmong(insulted, open);
            if (ofInsulted == NONE) {
                return;
            }
            int ofInsulter = persons.secondAmong(insulter, open & ~bit(ofInsulted));
            if (ofInsulter == NONE) {
                return;
            }
            free &= ~(bit(ofInsulted) | bit(ofInsulter));
            int who = shoot(ofInsulted, ofInsulter, dawn);
            log.add(dawn, ofInsulted, ofInsulter, insulted, insulter, who);
        }

        /** Who of two seconds is hurt, and what comes of it; NONE: they are of like honour. */
        private int shoot(int one, int other, int dawn) {
            int more = persons.honour[one] - persons.honour[other];
            if (more == 0) {
                return NONE;
            }
            int loser = more < 0 ? one : other;
            int winner = more < 0 ? other : one;
            int by = Math.abs(more);
            hurt |= bit(loser);
            wellFrom[loser] = dawn + by + 2;
            int friend = persons.firstFriend[loser];
            if (friend != winner) {
                taken.add(winner, friend, dawn, by);
            }
            return loser;
        }
    }
}
