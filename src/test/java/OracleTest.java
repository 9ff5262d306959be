import java.util.Arrays;
import java.util.TreeMap;

/** Runs of calls, the same ones each time, by which DuelSeconds and Oracle must answer alike. */
public final class OracleTest {
    private static final int RUNS = 1000, CALLS = 512;
    private static final String[] NAMES = {"coast", "ofPerson", "insult", "sorry", "arrest", "meetings", "met",
        "free", "second", "worth", "arrests", "provoked", "odds", "reading", "back", "never", "caught", "row",
        "sheet", "lose", "put", "cell", "copy", "tell", "salute", "as", "trace", "fault", "many"};

    private static long state;
    private static int wrong;
    private static DuelSeconds x;
    private static Oracle o;
    private static int calls;
    private static int run;
    // Which answers came: for OracleTest to be seen to go far.
    private static final TreeMap<String, Integer> seen = new TreeMap<>();

    public static void main(String[] args) {
        for (run = 0; run < RUNS && wrong < 10; run++) {
            state = 1000003L * run + 17;
            x = new DuelSeconds();
            o = new Oracle();
            calls = 0;
            // Some runs stay without a coast for a while.
            if (below(8) > 0) {
                makeCoast();
            }
            while (calls < CALLS && wrong < 10) {
                step();
            }
        }
        manyMeetings();
        if (args.length > 0) {
            System.out.println(seen);
        }
        if (wrong > 0) {
            System.exit(1);
        }
        System.out.println("OracleTest: all answers are alike");
    }

    /** The run with the most meetings that a search found: 66. */
    private static void manyMeetings() {
        String text = "d6;o821;o840;h953;h650;h720;g910";
        int[][] insults = {{3, 4, 26}, {3, 0, 5}, {0, 3, 17}, {3, 0, 23}, {0, 5, 0}, {4, 1, 8}, {0, 4, 14}, {3, 0, 29}};
        x = new DuelSeconds();
        o = new Oracle();
        calls = 0;
        call(18, 0, 0, text.length(), 0, 0);
        for (int i = 0; i < text.length(); i++) {
            call(20, 0, i, text.charAt(i), 0, 0);
        }
        call(0, 0, 0, 0, text.length(), 0);
        for (int[] one : insults) {
            call(2, one[0], one[1], one[2], 9, 0);
        }
        call(28, 3, 0, 0, 0, 0);
        call(5, 59, 0, 0, 0, 0);
        for (int k = 0; k <= 66; k++) {
            for (int what = 0; what < 6; what++) {
                call(6, k, what, 0, 0, 0);
            }
        }
        for (int k = 0; k < insults.length; k++) {
            call(9, k, 0, 0, 0, 0);
        }
        if (x.many(3) != 66) {
            wrong++;
            System.out.println("there are " + x.many(3) + " meetings, due are 66");
        }
    }

    private static int below(int n) {
        state = state * 6364136223846793005L + 1442695040888963407L;
        return (int) ((state >>> 33) % n);
    }

    private static int person() {
        int count = Math.max(2, o.many(0));
        return below(40) == 0 ? below(10) - 2 : below(count);
    }

    private static int dawn() {
        return below(40) == 0 ? below(70) - 5 : below(3) == 0 ? below(60) : below(14);
    }

    private static int day() {
        return below(40) == 0 ? below(40) - 5 : below(3) == 0 ? below(30) : below(6);
    }

    private static int wild() {
        int[] some = {Integer.MIN_VALUE, Integer.MAX_VALUE, -1, -2, 0, 1, 50, 51, 255, 128, 32768, 65536};
        return some[below(some.length)];
    }

    private static void makeCoast() {
        int count = below(3) == 0 ? 2 + below(5) : 5 + below(2);
        StringBuilder text = new StringBuilder("d").append(count);
        // The least honour: the more of it, the more is answered.
        int least = 1 + 3 * below(3) + below(2);
        for (int p = 0; p < count; p++) {
            text.append(';').append("gho".charAt(below(3))).append(least + below(10 - least));
            for (int f = 0; f < 2; f++) {
                text.append((p + 1 + below(count - 1)) % count);
            }
        }
        int spoil = below(6);
        if (spoil == 0) {
            text.setCharAt(below(text.length()), (char) (45 + below(70)));
        } else if (spoil == 1) {
            text.setLength(below(text.length()));
        } else if (spoil == 2) {
            text.append((char) (45 + below(70)));
        }
        int sheet = below(4);
        int lane = below(3);
        int ahead = below(3) == 0 ? below(5) : 0;
        call(18, sheet, lane, ahead + text.length(), 0, 0);
        for (int i = 0; i < text.length(); i++) {
            call(20, sheet, ahead + i, text.charAt(i), 0, 0);
        }
        call(0, sheet, lane, ahead, text.length(), 0);
        int insults = below(9);
        for (int k = 0; k < insults; k++) {
            makeInsult();
        }
    }

    private static void makeInsult() {
        call(2, person(), person(), day(), below(20) == 0 ? below(14) - 2 : 9 - below(9) * below(9) / 9, 0);
    }

    private static void step() {
        int kind = below(100);
        if (kind < 1) {
            makeCoast();
        } else if (kind < 3) {
            call(0, below(5), below(4), below(4), below(40) - 2, 0);
        } else if (kind < 6) {
            call(1, person(), below(8) - 1, 0, 0, 0);
        } else if (kind < 16) {
            makeInsult();
        } else if (kind < 18) {
            call(3, below(3) == 0 ? below(11) - 1 : below(3), 0, 0, 0, 0);
        } else if (kind < 23) {
            call(4, person(), below(4) == 0 ? 1 : 0, 0, 0, 0);
        } else if (kind < 26) {
            call(5, dawn(), 0, 0, 0, 0);
        } else if (kind < 34) {
            int met = o.many(3);
            call(6, below(met + 1) - below(20) / 19, below(10) == 0 ? below(8) - 1 : below(6), 0, 0, 0);
            seen.merge("met " + met, 1, Integer::sum);
        } else if (kind < 38) {
            call(7, person(), dawn(), 0, 0, 0);
        } else if (kind < 42) {
            call(8, person(), person(), dawn(), 0, 0);
        } else if (kind < 46) {
            call(9, below(10) - 1, 0, 0, 0, 0);
        } else if (kind < 48) {
            call(10, dawn(), 0, 0, 0, 0);
        } else if (kind < 50) {
            call(11, person(), person(), day(), 0, 0);
        } else if (kind < 53) {
            call(12, person(), dawn(), below(10) == 0 ? below(5) - 2 : below(2), 0, 0);
        } else if (kind < 58) {
            readSomething();
        } else if (kind < 61) {
            call(14, below(4) == 0 ? below(10) - 1 : below(3), 0, 0, 0, 0);
        } else if (kind < 65) {
            call(15 + below(2), 0, 0, 0, 0, 0);
        } else if (kind < 68) {
            makeRow();
        } else {
            sheets(kind);
        }
    }

    /** Mostly what is so, lest no reading ever fits. */
    private static void readSomething() {
        int met = o.many(3);
        if (met == 0 || below(3) == 0) {
            call(13, person(), dawn(), below(6) == 0 ? 1 : 0, 0, 0);
        } else {
            int k = below(met);
            call(13, o.met(k, 1 + below(4)), o.met(k, 0) + (below(5) == 0 ? 1 : 0), below(4) == 0 ? 0 : 1, 0, 0);
        }
    }

    private static void makeRow() {
        int sheet = below(4);
        int lane = below(3);
        int n = below(16);
        call(18, sheet, lane, n, 0, 0);
        for (int i = 0; i < n; i++) {
            call(20, sheet, i, below(60) == 0 ? below(9) - 2 : person(), 0, 0);
        }
        int i = below(4) == 0 ? below(n + 3) - 1 : 0;
        call(17, sheet, lane, i, n - Math.max(0, i), 0);
        call(17, below(5), below(3), below(3) - 1, below(4) - 1, 0);
    }

    private static void sheets(int kind) {
        if (kind < 70) {
            call(18, below(6) - 1, below(5) - 1, below(4) == 0 ? wild() : below(51), 0, 0);
        } else if (kind < 71) {
            call(19, below(6) - 1, 0, 0, 0, 0);
        } else if (kind < 76) {
            call(20, below(6) - 1, below(8) == 0 ? wild() : below(20) - 1, below(2) == 0 ? wild() : below(999), 0, 0);
        } else if (kind < 81) {
            call(21, below(6) - 1, below(8) == 0 ? wild() : below(20) - 1, below(4), 0, 0);
        } else if (kind < 86) {
            call(22, below(5), below(9) == 0 ? wild() : below(9), below(5), below(9) == 0 ? wild() : below(9),
                below(9) == 0 ? wild() : below(12) - 1);
        } else if (kind < 88) {
            call(23, person(), 0, 0, 0, 0);
        } else if (kind < 90) {
            call(24, person(), 0, 0, 0, 0);
        } else if (kind < 93) {
            call(25, person(), below(6) - 1, 0, 0, 0);
        } else if (kind < 95) {
            call(26, 0, 0, 0, 0, 0);
        } else if (kind < 98) {
            call(27, 0, 0, 0, 0, 0);
        } else {
            call(28, below(6) - 1, 0, 0, 0, 0);
        }
    }

    private static void call(int which, int a, int b, int c, int d, int e) {
        if (calls >= CALLS) {
            return;
        }
        calls++;
        long got = ofProgram(which, a, b, c, d, e);
        long want = ofOracle(which, a, b, c, d, e);
        seen.merge(NAMES[which] + (want < 0 ? String.valueOf(Math.max(want, -100)) : want > 0 ? "+" : "0"), 1,
            Integer::sum);
        if (got != want) {
            wrong++;
            System.out.println("run " + run + ", call " + calls + ": " + NAMES[which]
                + Arrays.toString(new int[] {a, b, c, d, e}) + " answered " + got + ", due is " + want);
        }
    }

    private static long ofProgram(int which, int a, int b, int c, int d, int e) {
        switch (which) {
            case 0: return x.coast(a, b, c, d);
            case 1: return x.ofPerson(a, b);
            case 2: return x.insult(a, b, c, d);
            case 3: return x.sorry(a);
            case 4: return x.arrest(a, b == 1);
            case 5: return x.meetings(a);
            case 6: return x.met(a, b);
            case 7: return x.free(a, b);
            case 8: return x.second(a, b, c);
            case 9: return x.worth(a);
            case 10: return x.arrests(a);
            case 11: return x.provoked(a, b, c);
            case 12: return x.odds(a, b, c);
            case 13: return x.reading(a, b, c == 1);
            case 14: return x.back(a);
            case 15: return x.never();
            case 16: return x.caught();
            case 17: return x.row(a, b, c, d);
            case 18: return x.sheet(a, b, c);
            case 19: return x.lose(a);
            case 20: return x.put(a, b, c);
            case 21: return x.cell(a, b, c);
            case 22: return x.copy(a, b, c, d, e);
            case 23: return x.tell(a);
            case 24: return x.salute(a);
            case 25: return x.as(a, b);
            case 26: return x.trace();
            case 27: return x.fault();
            default: return x.many(a);
        }
    }

    private static long ofOracle(int which, int a, int b, int c, int d, int e) {
        switch (which) {
            case 0: return o.coast(a, b, c, d);
            case 1: return o.ofPerson(a, b);
            case 2: return o.insult(a, b, c, d);
            case 3: return o.sorry(a);
            case 4: return o.arrest(a, b == 1);
            case 5: return o.meetings(a);
            case 6: return o.met(a, b);
            case 7: return o.free(a, b);
            case 8: return o.second(a, b, c);
            case 9: return o.worth(a);
            case 10: return o.arrests(a);
            case 11: return o.provoked(a, b, c);
            case 12: return o.odds(a, b, c);
            case 13: return o.reading(a, b, c == 1);
            case 14: return o.back(a);
            case 15: return o.never();
            case 16: return o.caught();
            case 17: return o.row(a, b, c, d);
            case 18: return o.sheet(a, b, c);
            case 19: return o.lose(a);
            case 20: return o.put(a, b, c);
            case 21: return o.cell(a, b, c);
            case 22: return o.copy(a, b, c, d, e);
            case 23: return o.tell(a);
            case 24: return o.salute(a);
            case 25: return o.as(a, b);
            case 26: return o.trace();
            case 27: return o.fault();
            default: return o.many(a);
        }
    }
}
