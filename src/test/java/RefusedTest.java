import java.util.ArrayList;
import java.util.List;

/**
 * Each refusal and each fault that a promise names, also where two of them would apply at once: what is
 * answered, what fault() tells, and that all else is as it is on an object without the call.
 */
public final class RefusedTest {
    private static final Due due = new Due("RefusedTest");
    private static final int LEAST = Due.LEAST, MOST = Due.MOST;
    private static final long LOST = Due.LOST;
    private static final int UNKNOWN = -1, OUTSIDE = -2, STATE = -3, FULL = -4;
    private static final int NULL = 1, CAST = 2, INDEX = 3, SIZE = 4;
    /** What fault() tells behind a call that names none: the fault of the call ahead of it. */
    private static final int KEPT = INDEX;

    private interface Call {
        long on(DuelSeconds x);
    }

    private static boolean hasCoast = true;

    public static void main(String[] args) {
        terms();
        coast();
        persons();
        insults();
        meetings();
        apologies();
        readings();
        row();
        sheets();
        copy();
        bodies();
        withoutACoast();
        asking();
        due.end();
    }

    // ---- what is held against what

    /**
     * A coast with eight insults, eight readings, 1 arrested; bytes on sheet 0 (the text), three shorts on
     * sheet 1 (the last is no person), two ints on sheet 2, nothing on sheet 3; the latest fault is INDEX.
     */
    private static DuelSeconds full() {
        DuelSeconds x = Due.with(Due.FOUR);
        int[][] insults = {{0, 1, 0, 9}, {1, 0, 0, 9}, {2, 3, 1, 8}, {0, 1, 3, 6}, {3, 2, 5, 9}, {0, 2, 9, 9},
            {0, 1, 9, 1}, {1, 2, 29, 9}};
        for (int[] one : insults) {
            x.insult(one[0], one[1], one[2], one[3]);
        }
        for (int k = 0; k < 8; k++) {
            x.reading(2, 1, true);
        }
        x.arrest(1, true);
        x.tell(0);
        putSheets(x);
        return x;
    }

    private static DuelSeconds empty() {
        DuelSeconds x = new DuelSeconds();
        x.sheet(0, 0, 22);
        putSheets(x);
        return x;
    }

    private static void putSheets(DuelSeconds x) {
        x.sheet(1, 1, 3);
        x.put(1, 1, 2);
        x.put(1, 2, 4);
        x.sheet(2, 2, 2);
        x.put(2, 1, -70000);
        x.put(2, 2, 0);
    }

    /** All that can be asked of an object, but for fault(). */
    private static List<Long> all(DuelSeconds x) {
        List<Long> told = new ArrayList<>();
        told.add((long) x.trace());
        for (int what = 0; what < 4; what++) {
            told.add((long) x.many(what));
        }
        int met = x.many(3);
        for (int k = 0; k < met; k++) {
            for (int what = 0; what < 6; what++) {
                told.add((long) x.met(k, what));
            }
        }
        for (int p = 0; p < x.many(0); p++) {
            for (int what = 0; what < 6; what++) {
                told.add((long) x.ofPerson(p, what));
            }
            told.add(x.odds(p, 59, 0));
        }
        told.add((long) x.never());
        told.add((long) x.caught());
        for (int k = 0; k < 4; k++) {
            for (int i = 0; i < 24; i++) {
                told.add(x.cell(k, i, k % 3));
            }
            told.add((long) x.lose(k));
        }
        return told;
    }

    /** What is refused, or comes to a fault. */
    private static void no(String what, long want, int fault, Call call) {
        DuelSeconds x = hasCoast ? full() : empty();
        due.is(what, call.on(x), want);
        due.is("fault(): " + what, x.fault(), fault);
        List<Long> got = all(x);
        List<Long> as = all(hasCoast ? full() : empty());
        if (!got.equals(as)) {
            System.out.println("it was " + as + ", and is " + got);
        }
        due.is("what is changed: " + what, got.equals(as) ? 0 : 1, 0);
    }

    private static void fault(String what, int fault, Call call) {
        no(what, -10 - fault, fault, call);
    }

    // ---- the terms

    private static void terms() {
        due.says("Refusals", "REFUSALS, in the order in which a call's line tells them: UNKNOWN (there is no such PERSON, "
            + "INSULT, MEETING, SHEET, place), OUTSIDE (another number is not as told), STATE (as told), FULL");
        no("person, UNKNOWN ahead of OUTSIDE", -1, KEPT, x -> x.insult(4, 0, 30, 10));
        no("insult, UNKNOWN", -1, KEPT, x -> x.worth(8));
        no("meeting, UNKNOWN ahead of OUTSIDE", -1, KEPT, x -> x.met(MOST, 6));
        no("sheet, UNKNOWN ahead of OUTSIDE", -1, 0, x -> x.sheet(4, 3, 51));
        no("OUTSIDE ahead of FULL", -2, KEPT, x -> x.insult(0, 1, 30, 10));
        hasCoast = false;
        no("OUTSIDE ahead of STATE", -2, KEPT, x -> x.meetings(60));
        no("STATE", -3, KEPT, x -> x.meetings(0));
        hasCoast = true;
        no("FULL", -4, KEPT, x -> x.insult(0, 1, 0, 9));
        due.says("Refusals", "they change nothing (but fault(), of a call that names FAULTS).");
        no("lose names none", -1, KEPT, x -> x.lose(4));
        no("sheet names one", -1, 0, x -> x.sheet(4, 0, 1));
        due.says("Refusals", "FAULTS are the machine's: 1 NULL (there is nothing), 2 CAST (it is of another lane, kind)");
        fault("there is nothing", 1, x -> x.put(3, 0, 0));
        fault("of another lane", 2, x -> x.coast(1, 0, 0, 3));
        fault("of another kind", 2, x -> x.as(0, 2));
        due.says("Refusals", "Of a call the first that is come to, in the order told; it answers -10 less it (LOST, where "
            + "a long is answered, as for refusals) and changes nothing; fault() tells it.");
        no("NULL, SIZE and INDEX", -11, 1, x -> x.row(3, 0, -1, -1));
        no("CAST, SIZE and INDEX", -12, 2, x -> x.row(0, 1, -1, -1));
        no("SIZE and INDEX", -14, 4, x -> x.row(0, 0, -1, -1));
        no("INDEX", -13, 3, x -> x.row(0, 0, -1, 0));
        no("a long: refused", LOST, 0, x -> x.cell(4, 0, 0));
        no("a long: NULL", LOST, 1, x -> x.cell(3, 0, 0));
        no("a long: CAST", LOST, 2, x -> x.cell(0, 0, 1));
        no("a long: INDEX", LOST, 3, x -> x.cell(0, -1, 0));
        due.says("Refusals", "NONE is -9.");
        no("second()", -9, KEPT, x -> Due.with("d2;g111;g100").second(0, 1, 0));
        no("provoked()", -9, KEPT, x -> x.provoked(0, 1, 0));
    }

    // ---- the calls

    private static void coast() {
        due.says("Promise 2", "UNKNOWN; OUTSIDE: lane; FAULTS CAST (nothing is no CAST), NULL, SIZE: n is below 0, "
            + "INDEX: not all cells are there; -100 less it.");
        for (int k : new int[] {LEAST, -1, 4, MOST}) {
            no("no sheet", UNKNOWN, 0, x -> x.coast(k, 0, 0, 22));
            no("no sheet, lane, n, i", UNKNOWN, 0, x -> x.coast(k, 3, -1, -1));
        }
        for (int lane : new int[] {LEAST, -1, 3, MOST}) {
            no("lane", OUTSIDE, 0, x -> x.coast(0, lane, 0, 22));
            no("lane and NULL", OUTSIDE, 0, x -> x.coast(3, lane, 0, 0));
            no("lane, n and i", OUTSIDE, 0, x -> x.coast(0, lane, -1, -1));
        }
        for (int lane = 0; lane < 3; lane++) {
            int it = lane;
            fault("NULL", NULL, x -> x.coast(3, it, 0, 0));
            fault("NULL, n and i", NULL, x -> x.coast(3, it, -1, -1));
        }
        fault("CAST", CAST, x -> x.coast(0, 1, 0, 22));
        fault("CAST, n and i", CAST, x -> x.coast(0, 2, -1, -1));
        fault("CAST and i", CAST, x -> x.coast(2, 0, 99, 1));
        fault("SIZE", SIZE, x -> x.coast(0, 0, 0, -1));
        fault("SIZE and i", SIZE, x -> x.coast(0, 0, 23, LEAST));
        fault("INDEX: i", INDEX, x -> x.coast(0, 0, -1, 0));
        fault("INDEX: i", INDEX, x -> x.coast(0, 0, 23, 0));
        fault("INDEX: n", INDEX, x -> x.coast(0, 0, 0, 23));
        no("FIRST FAULT", -100, 0, x -> x.coast(0, 0, 1, 21));
        no("FIRST FAULT", -121, 0, x -> x.coast(0, 0, 0, 21));
        no("FIRST FAULT", -100, 0, x -> x.coast(2, 2, 0, 2));
        no("FIRST FAULT", -100, 0, x -> x.coast(0, 0, 22, 0));
    }

    private static void persons() {
        due.says("Promise 3", "UNKNOWN; OUTSIDE.");
        no("no person", UNKNOWN, KEPT, x -> x.ofPerson(4, 0));
        no("no person and what", UNKNOWN, KEPT, x -> x.ofPerson(-1, 6));
        no("what", OUTSIDE, KEPT, x -> x.ofPerson(3, 6));
        no("what", OUTSIDE, KEPT, x -> x.ofPerson(0, -1));
        due.says("Promise 6", "UNKNOWN.");
        no("no person", UNKNOWN, KEPT, x -> x.arrest(4, true));
        no("no person", UNKNOWN, KEPT, x -> x.arrest(-1, false));
        due.says("Promise 6", "0: it was so.");
        no("it is arrested", 0, KEPT, x -> x.arrest(1, true));
        no("it isn't", 0, KEPT, x -> x.arrest(0, false));
    }

    private static void insults() {
        due.says("Promise 4", "UNKNOWN: PERSONS (they are one: so, too); OUTSIDE: day, degree; FULL.");
        no("no from", UNKNOWN, KEPT, x -> x.insult(4, 0, 0, 1));
        no("no to, day, degree and FULL", UNKNOWN, KEPT, x -> x.insult(0, -1, 30, 10));
        no("one and FULL", UNKNOWN, KEPT, x -> x.insult(3, 3, 0, 1));
        no("one, day and FULL", UNKNOWN, KEPT, x -> x.insult(3, 3, -1, 1));
        no("day and FULL", OUTSIDE, KEPT, x -> x.insult(0, 1, 30, 1));
        no("degree and FULL", OUTSIDE, KEPT, x -> x.insult(0, 1, 0, 0));
        no("FULL", FULL, KEPT, x -> x.insult(0, 1, 29, 9));
        no("FULL, eight times", FULL, KEPT, x -> {
            long answer = FULL;
            for (int k = 0; k < 8; k++) {
                answer = Math.max(answer, x.insult(2, 3, k, 9));
            }
            return answer;
        });
        due.says("Promise 5", "OUTSIDE.");
        no("sorry", OUTSIDE, KEPT, x -> x.sorry(-1));
        no("sorry", OUTSIDE, KEPT, x -> x.sorry(9));
        no("sorry", OUTSIDE, KEPT, x -> x.sorry(MOST));
        no("none", 8, KEPT, x -> x.sorry(0));
    }

    private static void meetings() {
        due.says("Promise 7", "OUTSIDE: dawn; STATE: there is no COAST.");
        no("dawn", OUTSIDE, KEPT, x -> x.meetings(60));
        no("dawn", OUTSIDE, KEPT, x -> x.meetings(-1));
        due.says("Promise 8", "UNKNOWN; OUTSIDE.");
        no("no meeting", UNKNOWN, KEPT, x -> x.met(-1, 0));
        no("no meeting and what", UNKNOWN, KEPT, x -> x.met(x.many(3), 6));
        no("what", OUTSIDE, KEPT, x -> x.met(0, 6));
        no("what", OUTSIDE, KEPT, x -> x.met(0, -1));
        due.says("Promise 9", "UNKNOWN; OUTSIDE.");
        no("no person and dawn", UNKNOWN, KEPT, x -> x.free(4, 60));
        no("dawn", OUTSIDE, KEPT, x -> x.free(0, 60));
        due.says("Promise 10", "UNKNOWN: PERSONS (they are one: so, too); OUTSIDE.");
        no("no person and dawn", UNKNOWN, KEPT, x -> x.second(4, 0, 60));
        no("no other and dawn", UNKNOWN, KEPT, x -> x.second(0, 4, -1));
        no("one and dawn", UNKNOWN, KEPT, x -> x.second(2, 2, 60));
        no("dawn", OUTSIDE, KEPT, x -> x.second(0, 1, 60));
    }

    private static void apologies() {
        due.says("Promise 11", "UNKNOWN: INSULT.");
        no("no insult", UNKNOWN, KEPT, x -> x.worth(-1));
        no("no insult", UNKNOWN, KEPT, x -> x.worth(8));
        due.says("Promise 12", "OUTSIDE; STATE: there is no COAST.");
        no("dawn", OUTSIDE, KEPT, x -> x.arrests(-1));
        no("dawn", OUTSIDE, KEPT, x -> x.arrests(60));
        due.says("Promise 13", "UNKNOWN: PERSONS (they are one: so, too); OUTSIDE: day (0 .. 29).");
        no("no person and day", UNKNOWN, KEPT, x -> x.provoked(4, 0, 30));
        no("no other and day", UNKNOWN, KEPT, x -> x.provoked(0, -1, 30));
        no("one and day", UNKNOWN, KEPT, x -> x.provoked(0, 0, 30));
        no("day", OUTSIDE, KEPT, x -> x.provoked(0, 1, 30));
        due.says("Promise 14", "LOST: UNKNOWN; OUTSIDE: dawn, which.");
        no("no person", LOST, KEPT, x -> x.odds(4, 0, 0));
        no("dawn", LOST, KEPT, x -> x.odds(0, 60, 0));
        no("which", LOST, KEPT, x -> x.odds(0, 0, 2));
        no("all", LOST, KEPT, x -> x.odds(-1, -1, -1));
    }

    private static void readings() {
        due.says("Promise 15", "UNKNOWN; OUTSIDE: dawn; FULL.");
        no("no person, dawn and FULL", UNKNOWN, KEPT, x -> x.reading(4, 60, true));
        no("no person and FULL", UNKNOWN, KEPT, x -> x.reading(-1, 0, true));
        no("dawn and FULL", OUTSIDE, KEPT, x -> x.reading(0, 60, true));
        no("FULL", FULL, KEPT, x -> x.reading(0, 0, true));
        due.says("Promise 16", "OUTSIDE.");
        no("back", OUTSIDE, KEPT, x -> x.back(-1));
        no("back", OUTSIDE, KEPT, x -> x.back(9));
        no("none", 8, KEPT, x -> x.back(0));
    }

    private static void row() {
        due.says("Promise 19", "UNKNOWN: SHEET; OUTSIDE: lane; FAULTS CAST, NULL, SIZE, INDEX; STATE: there is no COAST; "
            + "UNKNOWN: any of the cells (also one behind) is no PERSON.");
        no("no sheet, lane, n, i", UNKNOWN, 0, x -> x.row(4, 3, -1, -1));
        no("lane and NULL", OUTSIDE, 0, x -> x.row(3, 3, 0, 0));
        no("lane, n and i", OUTSIDE, 0, x -> x.row(1, -1, -1, -1));
        fault("NULL, n and i", NULL, x -> x.row(3, 2, -1, -1));
        fault("CAST, n and i", CAST, x -> x.row(1, 2, -1, -1));
        fault("CAST and a cell", CAST, x -> x.row(1, 0, 0, 3));
        fault("SIZE and i", SIZE, x -> x.row(1, 1, 4, -1));
        fault("INDEX and a cell", INDEX, x -> x.row(1, 1, 1, 3));
        fault("INDEX of none", INDEX, x -> x.row(1, 1, 4, 0));
        no("a cell", UNKNOWN, 0, x -> x.row(1, 1, 0, 3));
        no("a cell", UNKNOWN, 0, x -> x.row(2, 2, 1, 1));
    }

    private static void sheets() {
        due.says("Promise 20", "UNKNOWN; OUTSIDE: lane, n above 50; SIZE.");
        no("no sheet, lane and n", UNKNOWN, 0, x -> x.sheet(4, 3, 51));
        no("no sheet and SIZE", UNKNOWN, 0, x -> x.sheet(-1, 0, -1));
        no("lane and SIZE", OUTSIDE, 0, x -> x.sheet(0, 3, -1));
        no("lane and n", OUTSIDE, 0, x -> x.sheet(0, -1, 51));
        no("n", OUTSIDE, 0, x -> x.sheet(1, 1, 51));
        no("n", OUTSIDE, 0, x -> x.sheet(3, 1, MOST));
        fault("SIZE", SIZE, x -> x.sheet(1, 1, -1));
        fault("SIZE", SIZE, x -> x.sheet(3, 0, LEAST));
        due.says("Promise 21", "0: it had nothing. UNKNOWN.");
        no("no sheet", UNKNOWN, KEPT, x -> x.lose(4));
        no("no sheet", UNKNOWN, KEPT, x -> x.lose(-1));
        no("it had nothing", 0, KEPT, x -> x.lose(3));
        due.says("Promise 22", "UNKNOWN; NULL; INDEX.");
        no("no sheet and i", UNKNOWN, 0, x -> x.put(4, -1, 1));
        fault("NULL and i", NULL, x -> x.put(3, -1, 1));
        fault("INDEX", INDEX, x -> x.put(1, 3, 1));
        fault("INDEX", INDEX, x -> x.put(0, -1, 1));
        fault("INDEX", INDEX, x -> x.put(0, 22, 1));
        due.says("Promise 23", "LOST: UNKNOWN, OUTSIDE: lane; FAULTS CAST (nothing is no CAST), NULL, INDEX.");
        no("no sheet", LOST, 0, x -> x.cell(4, 0, 0));
        no("lane and NULL", LOST, 0, x -> x.cell(3, 0, 3));
        no("lane and i", LOST, 0, x -> x.cell(0, 22, -1));
        no("NULL and i", LOST, NULL, x -> x.cell(3, -1, 1));
        no("CAST and i", LOST, CAST, x -> x.cell(0, 22, 1));
        no("INDEX", LOST, INDEX, x -> x.cell(0, 22, 0));
    }

    private static void copy() {
        due.says("Promise 24", "UNKNOWN; FAULTS NULL (the first, the other), CAST (unlike LANES), INDEX: i, j, n below 0 "
            + "or beyond.");
        no("no first and NULL", UNKNOWN, 0, x -> x.copy(4, 0, 3, 0, 0));
        no("no other and NULL", UNKNOWN, 0, x -> x.copy(3, 0, -1, 0, 0));
        no("no first, i, j, n", UNKNOWN, 0, x -> x.copy(-1, -1, 0, -1, -1));
        fault("NULL: the first, i, j, n", NULL, x -> x.copy(3, -1, 0, -1, -1));
        fault("NULL: the other, i, j, n", NULL, x -> x.copy(0, -1, 3, -1, -1));
        fault("CAST, i, j, n", CAST, x -> x.copy(0, -1, 1, -1, -1));
        fault("CAST", CAST, x -> x.copy(1, 0, 2, 0, 1));
        fault("INDEX: i", INDEX, x -> x.copy(0, 22, 0, 0, 1));
        fault("INDEX: j", INDEX, x -> x.copy(0, 0, 0, 22, 1));
        fault("INDEX: n", INDEX, x -> x.copy(1, 0, 1, 0, -1));
        fault("INDEX: n, though some cells are there", INDEX, x -> x.copy(1, 0, 1, 1, 3));
        fault("INDEX: n, though some cells are there", INDEX, x -> x.copy(1, 2, 1, 0, 2));
        fault("INDEX of none", INDEX, x -> x.copy(1, 4, 1, 0, 0));
        fault("INDEX of none", INDEX, x -> x.copy(1, 0, 1, 4, 0));
    }

    private static void bodies() {
        due.says("Promise 25", "UNKNOWN.");
        no("no person", UNKNOWN, KEPT, x -> x.tell(4));
        no("no person", UNKNOWN, KEPT, x -> x.tell(-1));
        due.says("Promise 26", "UNKNOWN.");
        no("no person", UNKNOWN, KEPT, x -> x.salute(4));
        no("no person", UNKNOWN, KEPT, x -> x.salute(-1));
        due.says("Promise 27", "UNKNOWN; OUTSIDE; CAST");
        no("no person and kind", UNKNOWN, 0, x -> x.as(4, 3));
        no("kind", OUTSIDE, 0, x -> x.as(0, 3));
        no("kind", OUTSIDE, 0, x -> x.as(0, -1));
        fault("CAST", CAST, x -> x.as(0, 1));
        fault("CAST", CAST, x -> x.as(3, 2));
        due.says("Promise 30", "OUTSIDE.");
        no("what", OUTSIDE, KEPT, x -> x.many(-1));
        no("what", OUTSIDE, KEPT, x -> x.many(4));
    }

    private static void withoutACoast() {
        hasCoast = false;
        due.says("Promise 1", "No COAST (no PERSONS), SHEETS have nothing.");
        no("ofPerson", UNKNOWN, KEPT, x -> x.ofPerson(0, 6));
        no("insult", UNKNOWN, KEPT, x -> x.insult(0, 1, 30, 1));
        no("sorry", OUTSIDE, KEPT, x -> x.sorry(1));
        no("sorry of none", 0, KEPT, x -> x.sorry(0));
        no("arrest", UNKNOWN, KEPT, x -> x.arrest(0, true));
        no("met", UNKNOWN, KEPT, x -> x.met(0, 6));
        no("free", UNKNOWN, KEPT, x -> x.free(0, 60));
        no("second", UNKNOWN, KEPT, x -> x.second(0, 1, 60));
        no("worth", UNKNOWN, KEPT, x -> x.worth(0));
        no("provoked", UNKNOWN, KEPT, x -> x.provoked(0, 1, 30));
        no("odds", LOST, KEPT, x -> x.odds(0, 0, 0));
        no("reading", UNKNOWN, KEPT, x -> x.reading(0, 60, true));
        no("back", OUTSIDE, KEPT, x -> x.back(1));
        no("back of none", 0, KEPT, x -> x.back(0));
        no("tell", UNKNOWN, KEPT, x -> x.tell(0));
        no("salute", UNKNOWN, KEPT, x -> x.salute(0));
        no("as", UNKNOWN, 0, x -> x.as(0, 3));
        due.says("Promise 7", "OUTSIDE: dawn; STATE: there is no COAST.");
        no("dawn ahead of STATE", OUTSIDE, KEPT, x -> x.meetings(60));
        no("STATE", STATE, KEPT, x -> x.meetings(59));
        due.says("Promise 12", "OUTSIDE; STATE: there is no COAST.");
        no("dawn ahead of STATE", OUTSIDE, KEPT, x -> x.arrests(-1));
        no("STATE", STATE, KEPT, x -> x.arrests(0));
        due.says("Promise 17", "STATE: there is no COAST.");
        no("STATE", STATE, KEPT, x -> x.never());
        due.says("Promise 18", "STATE: there is no COAST.");
        no("STATE", STATE, KEPT, x -> x.caught());
        due.says("Promise 19", "FAULTS CAST, NULL, SIZE, INDEX; STATE: there is no COAST; UNKNOWN");
        no("no sheet ahead of STATE", UNKNOWN, 0, x -> x.row(4, 0, 0, 0));
        no("lane ahead of STATE", OUTSIDE, 0, x -> x.row(0, 3, 0, 0));
        fault("NULL ahead of STATE", NULL, x -> x.row(3, 0, 0, 0));
        fault("CAST ahead of STATE", CAST, x -> x.row(0, 1, 0, 1));
        fault("SIZE ahead of STATE", SIZE, x -> x.row(0, 0, 0, -1));
        fault("INDEX ahead of STATE", INDEX, x -> x.row(0, 0, 0, 23));
        no("STATE", STATE, 0, x -> x.row(0, 0, 0, 22));
        no("STATE of none", STATE, 0, x -> x.row(0, 0, 0, 0));
        no("STATE ahead of a cell", STATE, 0, x -> x.row(1, 1, 0, 3));
        hasCoast = true;
    }

    /** What is asked, and answered, changes nothing, either. */
    private static void asking() {
        due.says("Not promised", "Nothing is promised beyond the answers and state changes described above");
        // 3 and 2 are the seconds at dawn 1, 3 rests till dawn 4; 1 is arrested, and is in no meeting at all.
        no("meetings", 1, KEPT, x -> x.meetings(1));
        no("met", 3, KEPT, x -> x.met(0, 5));
        no("free", 0, KEPT, x -> x.free(3, 2));
        no("second", 2, KEPT, x -> x.second(1, 0, 2));
        no("worth", 1000, KEPT, x -> x.worth(0));
        no("arrests", 4, KEPT, x -> x.arrests(1));
        no("provoked", -9, KEPT, x -> x.provoked(0, 1, 0));
        no("odds", 3, KEPT, x -> x.odds(3, 1, 0));
        no("never", 255, KEPT, x -> x.never());
        no("caught", 3, KEPT, x -> x.caught());
        no("row", 1, 0, x -> x.row(1, 1, 0, 1));
        no("cell", 2, 0, x -> x.cell(1, 1, 1));
        no("copy of none", 0, 0, x -> x.copy(1, 3, 1, 3, 0));
        no("as", 1, 0, x -> x.as(3, 0));
        no("trace", 1, KEPT, x -> x.trace());
        no("many", 4, KEPT, x -> x.many(0));
    }
}
