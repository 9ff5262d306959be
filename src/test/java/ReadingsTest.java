/** Promises 15 to 19: reading, back, never, caught, row. Answers are worked out by hand. */
public final class ReadingsTest {
    private static final Due due = new Due("ReadingsTest");
    // 2 and 3 meet of 0 to 1 (6 or more) and of 1 to 0 (5 or more), 3 is hurt by 1; 0 and 1 meet of 2 to 3
    // (8 or more) and of 3 to 2 (7 or more), 1 is hurt by 1; nobody answers what is taken.
    private static final String FOUR = "d4;g512;g423;g330;g201";

    public static void main(String[] args) {
        refusals();
        back();
        neverAndCaught();
        byHowAllIs();
        caughtOfArrested();
        atTheLastDawn();
        rowRefusals();
        row();
        due.end();
    }

    private static void refusals() {
        DuelSeconds none = new DuelSeconds();
        due.is("reading without a coast", none.reading(0, 60, true), -1);
        due.is("never without a coast", none.never(), -3);
        due.is("caught without a coast", none.caught(), -3);
        DuelSeconds x = Due.with(FOUR);
        due.is("no person", x.reading(-1, 60, true), -1);
        due.is("no person", x.reading(4, 0, true), -1);
        due.is("dawn", x.reading(0, -1, true), -2);
        due.is("dawn", x.reading(0, 60, false), -2);
        for (int k = 0; k < 8; k++) {
            due.is("reading " + k, x.reading(k % 4, 52 + k, false), k);
        }
        due.is("full", x.reading(0, 0, false), -4);
        due.is("outside ahead of full", x.reading(0, 60, false), -2);
        due.is("many(2)", x.many(2), 8);
    }

    private static void back() {
        DuelSeconds x = Due.with(FOUR);
        x.reading(0, 1, false);
        x.reading(1, 1, true);
        x.reading(2, 1, true);
        due.is("back(-1)", x.back(-1), -2);
        due.is("back(4)", x.back(4), -2);
        due.is("back(0)", x.back(0), 3);
        due.is("not so", x.caught(), 0);
        due.is("back(2)", x.back(2), 1);
        due.is("so", x.caught(), 15);
        due.is("next number", x.reading(3, 3, false), 1);
        due.is("back(2)", x.back(2), 0);
        due.is("back(1) of none", x.back(1), -2);
    }

    private static void neverAndCaught() {
        DuelSeconds x = Due.with(FOUR);
        due.is("no insults", x.never(), 0);
        due.is("no readings", x.caught(), 15);
        x.insult(0, 1, 0, 9);
        x.insult(2, 3, 0, 9);
        x.insult(2, 3, 0, 1);
        due.is("no readings", x.never(), 7);
        x.reading(2, 1, true);
        due.is("2 met", x.never(), 6);
        due.is("2 met", x.caught(), 3);
        x.reading(1, 1, false);
        due.is("1 didn't", x.never(), 2);
        due.is("1 didn't", x.caught(), 3);
        x.reading(3, 2, true);
        due.is("3 met at dawn 2", x.never(), 0);
        due.is("3 met at dawn 2", x.caught(), 0);
        x.back(2);
        x.reading(3, 1, false);
        due.is("3 didn't meet 2", x.never(), 0);
        due.is("the insulted are in no meeting", x.back(2), 0);
        x.reading(0, 1, false);
        due.is("0 didn't", x.never(), 2);
        due.is("0 didn't", x.caught(), 3);
    }

    private static void byHowAllIs() {
        DuelSeconds x = Due.with(FOUR);
        x.reading(2, 1, true);
        due.is("nobody met", x.caught(), 0);
        x.insult(0, 1, 0, 9);
        due.is("2 met", x.caught(), 3);
        due.is("but of that", x.never(), 0);
        x.insult(1, 0, 0, 9);
        due.is("either will do", x.never(), 3);
        x.arrest(3, true);
        due.is("3 is arrested", x.never(), 0);
        due.is("3 is arrested", x.caught(), 0);
    }

    private static void caughtOfArrested() {
        DuelSeconds x = Due.with(FOUR);
        x.insult(0, 1, 0, 9);
        x.insult(2, 3, 4, 9);
        x.arrest(0, true);
        x.reading(2, 1, true);
        x.reading(1, 5, false);
        due.is("who is arrested, too", x.caught(), 3);
        due.is("nobody is let go", x.ofPerson(0, 5), 1);
        due.is("nobody is caught by it", x.ofPerson(1, 5), 0);
    }

    /** The chain of MeetingsTest, in which 0 and 3 meet at dawn 59; 5 is nobody's friend. */
    private static void atTheLastDawn() {
        DuelSeconds x = Due.with("d6;o714;h720;h700;h810;h823;g100");
        x.insult(0, 1, 29, 9);
        x.insult(0, 5, 0, 8);
        x.reading(0, 59, true);
        x.reading(3, 59, true);
        x.reading(4, 59, false);
        due.is("not without insult 0", x.never(), 2);
        due.is("so with 5 arrested", x.caught() >> 5, 1);
        due.is("not so with 0 arrested", x.caught() & 1, 0);
        due.is("not so with 3 arrested", x.caught() >> 3 & 1, 0);
    }

    private static void rowRefusals() {
        DuelSeconds x = new DuelSeconds();
        due.is("no sheet", x.row(4, 9, 0, 0), -1);
        due.is("no sheet", x.row(-1, 0, 0, 0), -1);
        due.is("lane", x.row(0, 3, 0, 0), -2);
        due.is("lane", x.row(0, -1, 0, 0), -2);
        due.is("nothing", x.row(0, 0, 0, -1), -11);
        due.is("fault", x.fault(), 1);
        x.sheet(0, 1, 4);
        due.is("no coast", x.row(0, 1, 0, 4), -3);
        due.is("fault of a refused one", x.fault(), 0);
        due.is("cast", x.row(0, 0, -1, -1), -12);
        due.is("cast", x.row(0, 2, 0, 1), -12);
        due.is("fault", x.fault(), 2);
        due.is("size", x.row(0, 1, -1, -1), -14);
        due.is("fault", x.fault(), 4);
        due.is("index", x.row(0, 1, -1, 0), -13);
        due.is("index", x.row(0, 1, 5, 0), -13);
        due.is("index", x.row(0, 1, 1, 4), -13);
        due.is("index", x.row(0, 1, 1, Integer.MAX_VALUE), -13);
        due.is("fault", x.fault(), 3);
        Due.coast(x, FOUR, 3, 0);
        x.put(0, 3, 4);
        due.is("no person", x.row(0, 1, 0, 4), -1);
        due.is("fault of a refused one", x.fault(), 0);
        x.put(0, 3, -1);
        due.is("no person", x.row(0, 1, 3, 1), -1);
        x.arrest(0, true);
        due.is("no person behind the one who isn't free", x.row(0, 1, 0, 4), -1);
        due.is("ahead of it", x.row(0, 1, 0, 3), 0);
        due.is("none", x.row(0, 1, 4, 0), 0);
        due.is("fault of one that was taken", x.fault(), 0);
    }

    /** 3 is hurt at dawn 1 and free again from dawn 4 on. */
    private static void row() {
        DuelSeconds x = Due.with(FOUR);
        x.insult(0, 1, 0, 9);
        x.sheet(2, 2, 50);
        for (int i = 0; i < 50; i++) {
            x.put(2, i, 3);
        }
        due.is("3 at dawns 0 and 1", x.row(2, 2, 0, 50), 2);
        due.is("the place in the row, not on the sheet", x.row(2, 2, 10, 40), 2);
        due.is("just one", x.row(2, 2, 0, 1), 1);
        x.put(2, 2, 2);
        due.is("2 at dawn 2", x.row(2, 2, 0, 50), 3);
        x.put(2, 3, 0);
        due.is("0 at dawn 3, 3 from dawn 4 on", x.row(2, 2, 0, 50), 50);
        x.arrest(2, true);
        due.is("2 is arrested, nobody was hurt", x.row(2, 2, 0, 50), 2);
        due.is("nobody was hurt", x.row(2, 2, 3, 47), 47);
    }
}
