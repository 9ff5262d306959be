/**
 * Sentence by sentence, what part 4 and the promises 14 to 19 say of edges. Answers are worked out from the
 * document's words; the remarks tell how.
 */
public final class Part4Test {
    private static final Due due = new Due("Part4Test");
    private static final int LEAST = Due.LEAST, MOST = Due.MOST;
    private static final long LOST = Due.LOST;
    // Of 0 to 1 (by 6 or more) 2 and 3 meet, 3 is hurt by 1, and 0 lets that pass; of 1 to 0 (by 5 or more)
    // 2 and 3 meet, too; of 2 to 3 (by 8 or more) 0 and 1, 1 is hurt by 1, and 2 lets that pass.
    private static final String FOUR = Due.FOUR;

    public static void main(String[] args) {
        oddsOfNone();
        oddsUpToADawn();
        oddsOfAllSets();
        oddsInLeastTerms();
        oddsRefusals();
        readingNumbers();
        readingFull();
        readingRefusals();
        back();
        backOfTheLast();
        neverWithoutEach();
        neverAlone();
        caught();
        caughtOfArrested();
        allReadings();
        readingsAtTheEnds();
        asAllIs();
        stateOfNoCoast();
        rowOfSeconds();
        rowOfFifty();
        rowRefusals();
        rowFaults();
        rowUnknownCells();
        due.end();
    }

    // ---- odds

    private static void share(DuelSeconds x, int p, int dawn, long upper, long lower) {
        due.is("upper odds of " + p + " by " + dawn, x.odds(p, dawn, 0), upper);
        due.is("lower odds of " + p + " by " + dawn, x.odds(p, dawn, 1), lower);
    }

    private static void oddsOfNone() {
        due.says("Refusals", "Shares are told as upper and lower number (above 0) in least terms.");
        DuelSeconds x = Due.with(FOUR);
        for (int p = 0; p < 4; p++) {
            share(x, p, 59, 0, 1);
        }
        for (int k = 0; k < 8; k++) {
            x.insult(0, 1, k, 5);
        }
        share(x, 3, 59, 0, 1);
        share(x, 0, 0, 0, 1);
    }

    private static void oddsUpToADawn() {
        due.says("Part 4", "of those by which it is HURT at a DAWN up to that.");
        DuelSeconds x = Due.with(FOUR);
        x.insult(0, 1, 29, 9);
        share(x, 3, 0, 0, 1);
        share(x, 3, 29, 0, 1);
        share(x, 3, 30, 1, 2);
        share(x, 3, 59, 1, 2);
        // 2 meets, but isn't hurt; 0 and 1 are those whom it concerns.
        share(x, 2, 59, 0, 1);
        share(x, 0, 59, 0, 1);
        share(x, 1, 59, 0, 1);
        // The chain of 30 meetings, see Part2Test: 2 is hurt at dawn 30, 1 at 31, 0 at 32.
        DuelSeconds y = Due.with("d5;o714;h720;h700;h810;h823");
        y.insult(0, 1, 29, 9);
        share(y, 2, 30, 1, 2);
        share(y, 1, 30, 0, 1);
        share(y, 1, 31, 1, 2);
        share(y, 0, 31, 0, 1);
        share(y, 0, 59, 1, 2);
    }

    /**
     * Of 0 to 1 on day 0: for 1 there is 2, for 0 there is 4; 2 is hurt by 1, and rests at dawns 2 and 3. On
     * day 1: the same, but if the first one is made, 3 is for 1, and is hurt by 2. Who is hurt has 4 as first
     * friend, who did it.
     */
    private static void oddsOfAllSets() {
        due.says("Part 4", "ODDS of a PERSON by a DAWN: if each INSULT is made, or not, all such sets alike: the share");
        DuelSeconds x = Due.with("d5;g544;g523;g844;g744;g900");
        x.insult(0, 1, 0, 9);
        x.insult(0, 1, 1, 9);
        share(x, 2, 1, 1, 2);
        share(x, 2, 2, 3, 4);
        share(x, 3, 1, 0, 1);
        share(x, 3, 2, 1, 4);
        share(x, 4, 59, 0, 1);
        DuelSeconds y = Due.with(FOUR);
        for (int k = 0; k < 8; k++) {
            y.insult(0, 1, 3 * k, 9);
            share(y, 3, 59, (2 << k) - 1, 2 << k);
        }
        share(y, 3, 1, 1, 2);
        share(y, 3, 21, 127, 128);
        share(y, 3, 22, 255, 256);
        due.is("eight stay", y.many(1), 8);
        y.arrest(3, true);
        share(y, 3, 59, 0, 1);
    }

    private static void oddsInLeastTerms() {
        due.says("Refusals", "in least terms");
        DuelSeconds x = Due.with(FOUR);
        x.insult(0, 1, 0, 9);
        for (int k = 1; k < 8; k++) {
            x.insult(2, 3, k, 1);
            share(x, 3, 59, 1, 2);
        }
        x.sorry(6);
        x.insult(0, 1, 5, 9);
        x.insult(2, 3, 5, 9);
        share(x, 3, 59, 3, 4);
        share(x, 1, 59, 1, 2);
    }

    private static void oddsRefusals() {
        due.says("Promise 14", "ODDS (which 0 the upper, 1 the lower number). LOST: UNKNOWN; OUTSIDE: dawn, which.");
        DuelSeconds x = Due.with(FOUR);
        due.is("which 0", x.odds(3, 59, 0), 0);
        due.is("which 1", x.odds(3, 59, 1), 1);
        for (int p : new int[] {LEAST, -1, 4, MOST}) {
            due.is("person " + p, x.odds(p, 0, 0), LOST);
        }
        for (int dawn : new int[] {LEAST, -1, 60, MOST}) {
            due.is("dawn " + dawn, x.odds(0, dawn, 1), LOST);
        }
        for (int which : new int[] {LEAST, -1, 2, MOST}) {
            due.is("which " + which, x.odds(0, 0, which), LOST);
        }
        due.is("without a coast", new DuelSeconds().odds(0, 0, 0), LOST);
    }

    // ---- reading, back

    private static void readingNumbers() {
        due.says("Part 4", "numbered by how many there are ahead (the first one is 0)");
        DuelSeconds x = Due.with(FOUR);
        due.is("the first one", x.reading(3, 59, true), 0);
        due.is("one of a dawn ahead", x.reading(0, 0, false), 1);
        due.is("the same once more", x.reading(0, 0, false), 2);
        due.is("and the contrary", x.reading(0, 0, true), 3);
        x.back(3);
        due.is("behind three that were taken back", x.reading(1, 1, true), 1);
    }

    private static void readingFull() {
        due.says("Part 4", "READINGS, 8 at most");
        DuelSeconds x = Due.with(FOUR);
        for (int k = 0; k < 8; k++) {
            due.is("reading " + k, x.reading(k % 4, k, false), k);
        }
        due.is("a ninth", x.reading(0, 0, false), -4);
        due.is("still eight", x.many(2), 8);
        due.says("Promise 15", "A READING: its number. UNKNOWN; OUTSIDE: dawn; FULL.");
        due.is("UNKNOWN ahead of FULL", x.reading(4, 0, false), -1);
        due.is("OUTSIDE ahead of FULL", x.reading(0, 60, false), -2);
        due.is("UNKNOWN ahead of OUTSIDE and FULL", x.reading(-1, 60, false), -1);
        x.back(1);
        due.is("room again", x.reading(3, 59, false), 7);
        due.is("full again", x.reading(3, 59, false), -4);
        due.is("insults have room", x.insult(0, 1, 0, 1), 0);
    }

    private static void readingRefusals() {
        due.says("Promise 15", "UNKNOWN; OUTSIDE: dawn; FULL.");
        DuelSeconds x = Due.with(FOUR);
        for (int p : new int[] {LEAST, -1, 4, MOST}) {
            due.is("person " + p, x.reading(p, 0, true), -1);
            due.is("person " + p + " and dawn", x.reading(p, 60, true), -1);
        }
        for (int dawn : new int[] {LEAST, -1, 60, MOST}) {
            due.is("dawn " + dawn, x.reading(0, dawn, true), -2);
        }
        due.is("none is there", x.many(2), 0);
        due.is("the first of all", x.reading(0, 0, true), 0);
        due.is("the last of all", x.reading(3, 59, true), 1);
        due.is("without a coast", new DuelSeconds().reading(0, 0, true), -1);
    }

    private static void back() {
        due.says("Promise 16", "(0 .. as many as there are)");
        DuelSeconds none = new DuelSeconds();
        due.is("none of none, without a coast", none.back(0), 0);
        due.is("one of none, without a coast", none.back(1), -2);
        DuelSeconds x = Due.with(FOUR);
        due.is("none of none", x.back(0), 0);
        due.is("one of none", x.back(1), -2);
        for (int k = 0; k < 8; k++) {
            x.reading(0, k, true);
        }
        due.says("Promise 16", "how many are left. OUTSIDE.");
        for (int k : new int[] {LEAST, -1, 9, MOST}) {
            due.is("back(" + k + ")", x.back(k), -2);
        }
        due.is("none of eight", x.back(0), 8);
        due.is("one of eight", x.back(1), 7);
        due.is("eight of seven", x.back(8), -2);
        due.is("seven of seven", x.back(7), 0);
        due.is("many(2)", x.many(2), 0);
    }

    private static void backOfTheLast() {
        due.says("Promise 16", "The last k READINGS");
        DuelSeconds x = Due.with(FOUR);
        x.reading(0, 9, false);
        x.reading(0, 1, true);
        due.is("the second one isn't so", x.caught(), 0);
        due.is("it is the one that goes", x.back(1), 1);
        due.is("the first one is so", x.caught(), 15);
    }

    // ---- never, caught

    private static void neverWithoutEach() {
        due.says("Part 4", "NEVER: INSULTS without each of which (alone) all READINGS are so, as a set.");
        DuelSeconds x = Due.with(FOUR);
        due.is("no insults", x.never(), 0);
        for (int k = 0; k < 8; k++) {
            x.insult(0, 1, 3 * k, 9);
            due.is("no readings", x.never(), (2 << k) - 1);
        }
        x.reading(2, 1, false);
        due.is("without the first one", x.never(), 1);
        x.back(1);
        x.reading(3, 22, false);
        due.is("without the last one", x.never(), 128);
        x.back(1);
        x.reading(2, 4, true);
        due.is("without each but the second one", x.never(), 255 - 2);
        due.is("eight stay", x.many(1), 8);
    }

    private static void neverAlone() {
        due.says("Part 4", "(alone)");
        DuelSeconds x = Due.with(FOUR);
        x.insult(0, 1, 0, 9);
        x.insult(1, 0, 0, 9);
        x.reading(2, 1, false);
        due.is("without either the other one stands in", x.never(), 0);
        DuelSeconds y = Due.with(FOUR);
        y.insult(0, 1, 0, 9);
        y.insult(2, 3, 0, 9);
        y.reading(2, 1, false);
        due.is("without the first one", y.never(), 1);
        y.reading(0, 1, false);
        due.is("without both alone", y.never(), 0);
    }

    private static void caught() {
        due.says("Part 4", "CAUGHT: PERSONS such that, were they ARRESTED, too (each alone), all READINGS are so, as a set.");
        DuelSeconds x = Due.with(FOUR);
        due.is("no readings, no insults", x.caught(), 15);
        due.is("of two persons", Due.with("d2;g111;g100").caught(), 3);
        due.is("of six persons", Due.with("d6;g512;h934;o205;h150;g853;o621").caught(), 63);
        x.insult(0, 1, 0, 9);
        due.is("no readings", x.caught(), 15);
        x.reading(2, 1, false);
        due.is("2 met nobody: 2 or 3", x.caught(), 12);
        x.back(1);
        x.reading(2, 1, true);
        due.is("2 met: 0 or 1", x.caught(), 3);
        x.insult(2, 3, 0, 9);
        x.reading(0, 1, false);
        due.is("2 met, 0 met nobody: 0 or 1", x.caught(), 3);
        x.reading(3, 1, false);
        due.is("3 did not, though 2 did", x.caught(), 0);
        x.back(3);
        x.reading(2, 1, false);
        x.reading(0, 1, false);
        due.is("each alone: nobody", x.caught(), 0);
        x.arrest(0, true);
        due.is("with 0: 2 or 3, too", x.caught(), 12);
        due.is("nobody is arrested by it", x.ofPerson(2, 5), 0);
    }

    /** Were one arrested who is, all would be as it is. */
    private static void caughtOfArrested() {
        due.says("Part 4", "were they ARRESTED, too (each alone)");
        DuelSeconds x = Due.with(FOUR);
        x.insult(0, 1, 0, 9);
        x.arrest(3, true);
        x.reading(2, 1, false);
        due.is("all readings are so", x.caught(), 15);
        x.back(1);
        x.reading(2, 1, true);
        due.is("none is", x.caught(), 0);
        due.is("3 is still arrested", x.ofPerson(3, 5), 1);
    }

    private static void allReadings() {
        due.says("Part 4", "all READINGS are so");
        DuelSeconds x = Due.with(FOUR);
        x.insult(0, 1, 0, 9);
        for (int k = 0; k < 7; k++) {
            x.reading(2, 1, true);
        }
        due.is("seven are", x.caught(), 3);
        x.reading(2, 1, false);
        due.is("the eighth is the contrary", x.caught(), 0);
        due.is("the eighth is the contrary", x.never(), 0);
        DuelSeconds y = Due.with(FOUR);
        y.reading(2, 1, true);
        for (int k = 0; k < 7; k++) {
            y.reading(2, 1, false);
        }
        due.is("the first is the contrary", y.caught(), 0);
    }

    private static void readingsAtTheEnds() {
        due.says("Part 4", "at a DAWN a PERSON was in a MEETING, or not.");
        DuelSeconds x = Due.with(FOUR);
        x.insult(0, 1, 0, 9);
        x.insult(2, 3, 29, 1);
        x.reading(2, 0, false);
        due.is("dawn 0: nobody meets", x.never(), 3);
        x.reading(2, 0, true);
        due.is("dawn 0: nobody meets", x.never(), 0);
        x.back(2);
        x.reading(2, 2, true);
        due.is("dawn 2 isn't dawn 1", x.never(), 0);
        x.back(1);
        x.reading(2, 1, true);
        x.reading(3, 1, true);
        x.reading(0, 1, false);
        x.reading(1, 1, false);
        due.is("whom it concerns are in none", x.never(), 2);
        // The chain of 30 meetings, see Part2Test, and 5, who is nobody's friend: 0 and 3 meet at dawn 59.
        DuelSeconds y = Due.with("d6;o714;h720;h700;h810;h823;g100");
        y.insult(0, 1, 29, 9);
        y.insult(0, 5, 29, 1);
        y.reading(0, 59, true);
        y.reading(3, 59, true);
        y.reading(4, 59, false);
        due.is("dawn 59", y.never(), 2);
        due.is("with 5 arrested, too", y.caught() >> 5, 1);
        due.is("but not with 0, or 3", y.caught() & (1 | 8), 0);
        y.reading(3, 59, false);
        due.is("the contrary", y.never(), 0);
    }

    private static void asAllIs() {
        due.says("Part 4", "(What follows is by how all is when it is asked.)");
        DuelSeconds x = Due.with(FOUR);
        x.reading(2, 1, true);
        due.is("no insult", x.caught(), 0);
        x.insult(0, 1, 0, 9);
        due.is("an insult", x.caught(), 3);
        x.insult(1, 0, 0, 9);
        due.is("one that stands in", x.never(), 3);
        x.arrest(2, true);
        due.is("2 is arrested", x.never(), 0);
        x.arrest(2, false);
        due.is("2 is let go", x.never(), 3);
        x.sorry(2);
        due.is("both are taken back", x.caught(), 0);
    }

    private static void stateOfNoCoast() {
        due.says("Promise 17", "NEVER, as a set. STATE: there is no COAST.");
        DuelSeconds x = new DuelSeconds();
        due.is("never()", x.never(), -3);
        due.says("Promise 18", "CAUGHT, as a set. STATE: there is no COAST.");
        due.is("caught()", x.caught(), -3);
        Due.coast(x, FOUR);
        due.is("never()", x.never(), 0);
        due.is("caught()", x.caught(), 15);
    }

    // ---- row

    /** Of 0 to 1 on day 0: 3 is hurt at dawn 1, and rests at dawns 2 and 3. */
    private static void rowOfSeconds() {
        due.says("Promise 19", "are FREE, the k-th at DAWN k (ahead of its MEETINGS), till one is not.");
        DuelSeconds x = Due.with(FOUR);
        x.insult(0, 1, 0, 9);
        due.is("3 at dawn 1, where it meets", rowOf(x, 3, 3), 2);
        due.is("3 at dawn 2", rowOf(x, 0, 0, 3, 0), 2);
        due.is("3 at dawn 3", rowOf(x, 0, 0, 0, 3, 0), 3);
        due.is("3 at dawn 4", rowOf(x, 0, 0, 0, 0, 3, 0), 6);
        due.is("none", rowOf(x), 0);
        x.arrest(2, true);
        due.is("the first one isn't", rowOf(x, 2, 0, 0), 0);
        due.is("the last one isn't", rowOf(x, 0, 0, 2), 2);
        due.is("those behind don't count", rowOf(x, 0, 2, 0, 2, 0), 1);
        due.is("nobody was hurt", rowOf(x, 3, 3, 3, 3), 4);
        due.says("Promise 19", "how many of them, one behind another from the first on");
        x.sheet(1, 2, 6);
        x.put(1, 4, 2);
        due.is("from 3 on", x.row(1, 2, 3, 3), 1);
        due.is("from 4 on", x.row(1, 2, 4, 2), 0);
        due.is("from 5 on", x.row(1, 2, 5, 1), 1);
        due.is("none from 4 on", x.row(1, 2, 4, 0), 0);
        due.is("none from the end on", x.row(1, 2, 6, 0), 0);
    }

    private static int rowOf(DuelSeconds x, int... persons) {
        x.sheet(1, 2, persons.length);
        for (int i = 0; i < persons.length; i++) {
            x.put(1, i, persons[i]);
        }
        return x.row(1, 2, 0, persons.length);
    }

    private static void rowOfFifty() {
        due.says("Promise 19", "A ROW of seconds: n such cells are PERSONS");
        for (int lane = 0; lane < 3; lane++) {
            DuelSeconds x = Due.with("d5;o714;h720;h700;h810;h823");
            x.sheet(1, lane, 50);
            due.is("fifty", x.row(1, lane, 0, 50), 50);
            // The chain of 30 meetings, see Part2Test: 0 is hurt by 1 at dawns 32, 35, and so on.
            x.insult(0, 1, 29, 9);
            due.is("0 rests at dawn 33", x.row(1, lane, 0, 50), 33);
            for (int i = 0; i < 50; i++) {
                x.put(1, i, i < 33 ? 0 : i % 2 + 3);
            }
            due.is("3 and 4 are free at each dawn", x.row(1, lane, 0, 50), 50);
            x.put(1, 49, 1);
            due.is("1, hurt at dawn 49, is free ahead of it", x.row(1, lane, 0, 50), 50);
            x.put(1, 49, 2);
            due.is("2, hurt at dawn 48, isn't free at 49", x.row(1, lane, 0, 50), 49);
        }
    }

    private static void rowRefusals() {
        due.says("Promise 19", "UNKNOWN: SHEET; OUTSIDE: lane");
        DuelSeconds x = Due.with(FOUR);
        for (int k : new int[] {LEAST, -1, 4, MOST}) {
            due.is("sheet " + k, x.row(k, 0, 0, 0), -1);
            due.is("sheet " + k + " and lane", x.row(k, 3, 0, 0), -1);
        }
        for (int lane : new int[] {LEAST, -1, 3, MOST}) {
            due.is("lane " + lane, x.row(0, lane, 0, 0), -2);
            due.is("lane " + lane + " ahead of NULL", x.row(3, lane, -1, -1), -2);
        }
        due.is("a refused one: fault()", x.fault(), 0);
        due.says("Promise 19", "STATE: there is no COAST");
        DuelSeconds none = new DuelSeconds();
        none.sheet(0, 0, 3);
        due.is("without a coast", none.row(0, 0, 0, 3), -3);
        due.is("none, without a coast", none.row(0, 0, 0, 0), -3);
        due.is("none at the end, without a coast", none.row(0, 0, 3, 0), -3);
        none.put(0, 2, 9);
        due.is("STATE ahead of the cells", none.row(0, 0, 0, 3), -3);
        none.put(3, 0, 0);
        due.is("STATE", none.row(0, 0, 0, 3), -3);
        due.is("fault()", none.fault(), 0);
    }

    private static void rowFaults() {
        due.says("Promise 19", "FAULTS CAST, NULL, SIZE, INDEX; STATE: there is no COAST");
        for (int turn = 0; turn < 2; turn++) {
            // The faults come ahead of STATE, so they are the same without a coast.
            DuelSeconds x = turn == 0 ? Due.with(FOUR) : new DuelSeconds();
            x.sheet(1, 1, 4);
            for (int lane = 0; lane < 3; lane++) {
                faulty(x, "nothing as lane " + lane, x.row(3, lane, -1, -1), 1);
            }
            faulty(x, "CAST", x.row(1, 0, 0, 4), 2);
            faulty(x, "CAST", x.row(1, 2, 0, 4), 2);
            faulty(x, "CAST ahead of SIZE and INDEX", x.row(1, 0, -1, -1), 2);
            faulty(x, "SIZE", x.row(1, 1, 0, -1), 4);
            faulty(x, "SIZE ahead of INDEX", x.row(1, 1, 5, LEAST), 4);
            faulty(x, "from -1 on", x.row(1, 1, -1, 1), 3);
            faulty(x, "none from -1 on", x.row(1, 1, -1, 0), 3);
            faulty(x, "none from 5 on", x.row(1, 1, 5, 0), 3);
            faulty(x, "five", x.row(1, 1, 0, 5), 3);
            faulty(x, "four from 1 on", x.row(1, 1, 1, 4), 3);
            faulty(x, "i and n that wrap", x.row(1, 1, 1, MOST), 3);
            faulty(x, "the most of both", x.row(1, 1, MOST, MOST), 3);
            faulty(x, "the least i", x.row(1, 1, LEAST, 0), 3);
            due.is("four", x.row(1, 1, 0, 4), turn == 0 ? 4 : -3);
            due.is("none from 4 on", x.row(1, 1, 4, 0), turn == 0 ? 0 : -3);
            due.is("fault()", x.fault(), 0);
        }
    }

    private static void faulty(DuelSeconds x, String what, long answer, int fault) {
        due.is(what, answer, -10 - fault);
        due.is("fault(): " + what, x.fault(), fault);
    }

    private static void rowUnknownCells() {
        due.says("Promise 19", "UNKNOWN: any of the cells (also one behind) is no PERSON.");
        DuelSeconds x = Due.with(FOUR);
        due.is("person 0", rowOf(x, 0), 1);
        due.is("person 3", rowOf(x, 3), 1);
        for (int p : new int[] {LEAST, -1, 4, MOST}) {
            due.is("first " + p, rowOf(x, p, 0, 0), -1);
            due.is("last " + p, rowOf(x, 0, 0, p), -1);
        }
        x.arrest(2, true);
        due.is("behind one who isn't free", rowOf(x, 2, 0, 4), -1);
        due.is("behind those that are taken", x.row(1, 2, 0, 2), 0);
        due.is("ahead of those that are taken", rowOf(x, 4, 0, 2, 0), -1);
        due.is("from 1 on", x.row(1, 2, 1, 3), 1);
        x.put(3, 0, 0);
        due.is("a refused one", x.row(1, 2, 0, 3), -1);
        due.is("fault()", x.fault(), 0);
    }
}
