/**
 * Sentence by sentence, what part 3 and the promises 11 to 13 say of edges. Answers are worked out from the
 * document's words; the remarks tell how.
 */
public final class Part3Test {
    private static final Due due = new Due("Part3Test");
    private static final int LEAST = Due.LEAST, MOST = Due.MOST;
    // Of 0 to 1 (by 6 or more) 2 and 3 meet, 3 is hurt by 1, and 0 lets that pass; of 1 to 0 (by 5 or more)
    // 2 and 3 meet, too; of 2 to 3 (by 8 or more) 0 and 1, 1 is hurt by 1, and 2 lets that pass.
    private static final String FOUR = Due.FOUR;

    public static void main(String[] args) {
        worthOfNothing();
        worthOfMeetings();
        worthBelowNothing();
        worthInTheirOrder();
        worthRefusals();
        fewestOfNone();
        fewestUpToADawn();
        fewestAheadOfLeast();
        fewestOfAllButOne();
        leastOfSeveral();
        moreThanAre();
        arrestsRefusals();
        provokedLeast();
        provokedBehindADay();
        provokedMeetingInAnyCase();
        provokedByAChain();
        provokedAtTheLastDawn();
        provokedWithEight();
        provokedBehindAllTold();
        provokedNone();
        provokedRefusals();
        due.end();
    }

    // ---- worth

    private static void worthOfNothing() {
        due.says("Promise 11", "WORTH, and 1000.");
        DuelSeconds x = Due.with(FOUR);
        x.insult(0, 1, 0, 5);
        due.is("let pass", x.worth(0), 1000);
        x.insult(0, 1, 0, 9);
        x.insult(1, 0, 0, 9);
        due.is("the next one stands in", x.worth(1), 1000);
        due.is("found nobody free", x.worth(2), 1000);
        x.insult(0, 1, 29, 9);
        due.is("one meeting", x.worth(3), 1001);
        due.is("all four stay", x.many(1), 4);
        due.is("and two meetings", x.many(3), 2);
    }

    /** Of 0 to 1 3 and 2 meet; 5 takes it, 1 and 0 meet. */
    private static void worthOfMeetings() {
        due.says("Part 3", "WORTH of an INSULT: how many fewer there are without it");
        DuelSeconds x = Due.with("d6;g512;h934;o205;h150;g853;o621");
        x.insult(0, 1, 0, 9);
        due.is("with what comes of it", x.worth(0), 1002);
        // For 1 there is 4, for 0 (1, 2, and then 1's friends 3, 4) there is 2's friend 5: 2 lets it pass.
        x.arrest(2, true);
        x.arrest(3, true);
        due.is("2 and 3 are arrested", x.worth(0), 1001);
        x.arrest(4, true);
        due.is("and 4", x.worth(0), 1000);
        // The chain of 30 meetings, see Part2Test.
        DuelSeconds y = Due.with("d5;o714;h720;h700;h810;h823");
        y.insult(0, 1, 29, 1);
        due.is("up to the last dawn", y.worth(0), 1030);
        y.insult(1, 0, 29, 1);
        due.is("of one that is let pass", y.worth(1), 1000);
    }

    /**
     * 2 (9) and 3 (1) meet at dawn 1, and 3 rests up to dawn 10. Without that 3 and 4, of like honour, meet at
     * each of the dawns 2 to 8; with it 4 alone could stand for both.
     */
    private static void worthBelowNothing() {
        due.says("Part 3", "how many fewer there are without it");
        DuelSeconds x = Due.with("d6;g912;g923;g934;g155;g155;g144");
        x.insult(0, 1, 0, 9);
        due.is("alone", x.worth(0), 1001);
        for (int day = 1; day < 8; day++) {
            x.insult(5, 2, day, 9);
            due.is("one, and none of " + day, x.many(3), 1);
            due.is("fewer with it", x.worth(0), 1001 - day);
        }
    }

    /**
     * 2 lets the first one pass. Of 1 to 4 3 and 2 meet (2 is hurt by 1, and 0, touchy by 2, lets it pass); of
     * 0 to 4 then for 4 there is 1, for 0 nobody. Were they in another order, 3 and 1 would meet, then 2 and 0.
     */
    private static void worthInTheirOrder() {
        due.says("Part 3", "(others in their order)");
        DuelSeconds x = Due.with("d5;g843;g820;g700;g842;g731");
        x.insult(1, 2, 0, 1);
        x.insult(1, 4, 0, 9);
        x.insult(0, 4, 0, 9);
        due.met(x, 0, 1, 3, 2, 4, 1, 2);
        due.is("one meeting", x.many(3), 1);
        due.is("of nothing", x.worth(0), 1000);
        DuelSeconds y = Due.with("d5;g843;g820;g700;g842;g731");
        y.insult(0, 4, 0, 9);
        y.insult(1, 4, 0, 9);
        due.is("in the other order two", y.many(3), 2);
    }

    private static void worthRefusals() {
        due.says("Promise 11", "UNKNOWN: INSULT.");
        DuelSeconds x = new DuelSeconds();
        due.is("without a coast", x.worth(0), -1);
        Due.coast(x, FOUR);
        due.is("none is told", x.worth(0), -1);
        for (int k = 0; k < 8; k++) {
            x.insult(0, 1, k, 1);
        }
        due.is("the first one", x.worth(0), 1000);
        due.is("the last one", x.worth(7), 1000);
        for (int k : new int[] {LEAST, -1, 8, MOST}) {
            due.is("worth(" + k + ")", x.worth(k), -1);
        }
        x.sorry(1);
        due.is("taken back", x.worth(7), -1);
    }

    // ---- arrests

    private static void fewestOfNone() {
        due.says("Part 3", "ARRESTS by a DAWN: the fewest PERSONS to be ARRESTED (more than are) so that none MEET");
        DuelSeconds x = Due.with(FOUR);
        due.is("no insults", x.arrests(59), 0);
        x.insult(0, 1, 0, 5);
        due.is("let pass", x.arrests(59), 0);
        x.insult(0, 1, 0, 6);
        due.is("2 or 3", x.arrests(59), 4);
        due.is("nobody is arrested by it", x.ofPerson(2, 5), 0);
        x.insult(2, 3, 0, 8);
        due.is("and 0 or 1", x.arrests(59), 5);
        due.is("no meeting less by it", x.many(3), 2);
    }

    private static void fewestUpToADawn() {
        due.says("Part 3", "so that none MEET at a DAWN up to that");
        DuelSeconds x = Due.with(FOUR);
        x.insult(0, 1, 0, 9);
        x.insult(2, 3, 29, 9);
        due.is("arrests(0)", x.arrests(0), 0);
        due.is("arrests(1)", x.arrests(1), 4);
        due.is("arrests(29)", x.arrests(29), 4);
        due.is("arrests(30)", x.arrests(30), 5);
        due.is("arrests(59)", x.arrests(59), 5);
    }

    /** Of 0 to 1: for 1 there is 4 alone, for 0 there are 2 and 3: 4 is one person, 2 and 3 are the lesser set. */
    private static void fewestAheadOfLeast() {
        due.says("Part 3", "the fewest PERSONS");
        DuelSeconds x = Due.with("d5;g523;g944;g501;g501;g501");
        x.insult(0, 1, 0, 9);
        due.is("4", x.arrests(59), 16);
        x.arrest(2, true);
        due.is("2 is: 3 or 4", x.arrests(59), 8);
        x.arrest(2, false);
        x.arrest(3, true);
        due.is("3 is: 2 or 4", x.arrests(59), 4);
    }

    /** Any two who are left are seconds for two others, of whom one is insulted. */
    private static void fewestOfAllButOne() {
        due.says("Part 3", "the fewest PERSONS to be ARRESTED");
        DuelSeconds x = Due.with(FOUR);
        for (int from = 0; from < 4; from++) {
            for (int to = from + 1; to < 4; to++) {
                x.insult(from, to, 0, 9);
            }
        }
        due.is("three of four", x.arrests(59), 7);
        x.arrest(3, true);
        due.is("3 is: two of three", x.arrests(59), 3);
        // The friends of each are such that all four but itself and whom it insults come in its chain.
        DuelSeconds y = Due.with("d6;g924;g940;g931;g905;g953;g912");
        y.insult(0, 1, 0, 1);
        y.insult(2, 3, 0, 1);
        y.insult(4, 5, 0, 1);
        due.is("five of six", y.arrests(1), 31);
        y.arrest(0, true);
        due.is("0 is: four of five", y.arrests(1), 30);
    }

    /**
     * Of 4 to 5: for 5 there are 1, 2, for 4 there are 0, 3 (and 1, taken). So 0 and 3, or 1 and 2: of these
     * sets, 9 and 6, the second is the least.
     */
    private static void leastOfSeveral() {
        due.says("Part 3", "as a set: of several the least");
        DuelSeconds x = Due.with("d6;g443;g655;h511;g815;o203;o712");
        x.insult(4, 5, 0, 9);
        due.is("1 and 2", x.arrests(1), 6);
        x.arrest(0, true);
        due.is("0 is: 3 alone", x.arrests(1), 8);
        DuelSeconds y = Due.with(FOUR);
        y.insult(2, 3, 0, 9);
        due.is("0 or 1", y.arrests(59), 1);
        due.says("Refusals", "Sets are told as bits (bit k for number k).");
        y.sorry(1);
        y.insult(0, 1, 0, 9);
        due.is("2 or 3", y.arrests(59), 4);
    }

    private static void moreThanAre() {
        due.says("Part 3", "(more than are)");
        DuelSeconds x = Due.with(FOUR);
        x.insult(0, 1, 0, 9);
        x.insult(2, 3, 0, 9);
        x.arrest(2, true);
        due.is("2 is: 0 or 1", x.arrests(59), 1);
        x.arrest(0, true);
        due.is("0 and 2 are", x.arrests(59), 0);
        x.arrest(2, false);
        due.is("0 is: 2 or 3", x.arrests(59), 4);
        x.arrest(1, true);
        x.arrest(2, true);
        x.arrest(3, true);
        due.is("all are", x.arrests(59), 0);
    }

    private static void arrestsRefusals() {
        due.says("Promise 12", "ARRESTS by a DAWN, as a set. OUTSIDE; STATE: there is no COAST.");
        DuelSeconds none = new DuelSeconds();
        DuelSeconds x = Due.with(FOUR);
        for (int dawn : new int[] {LEAST, -1, 60, MOST}) {
            due.is("arrests(" + dawn + ")", x.arrests(dawn), -2);
            due.is("arrests(" + dawn + ") without a coast", none.arrests(dawn), -2);
        }
        due.is("arrests(0) without a coast", none.arrests(0), -3);
        due.is("arrests(59) without a coast", none.arrests(59), -3);
        due.is("arrests(0)", x.arrests(0), 0);
        due.is("arrests(59)", x.arrests(59), 0);
    }

    // ---- provoked

    private static void provokedLeast() {
        due.says("Part 3", "of several the least from, to, DEGREE.");
        DuelSeconds x = Due.with(FOUR);
        due.is("also of 1 to 0", x.provoked(2, 3, 0), 16);
        due.is("the two the other way round", x.provoked(3, 2, 0), 16);
        // Of 0 to 2: for 2 there is 3, for 0 there is 1. Of 0 to 3: for 3 there is 1, for 0 there is 2.
        due.is("of 0 to 2, by 7", x.provoked(1, 3, 0), 27);
        due.is("of 0 to 3, by 8", x.provoked(2, 1, 0), 38);
        // Of 1 to 2, by 7: for 2 there is 3, for 1 (2, 3, 3, 0) there is 0.
        due.is("of 1 to 2, by 7", x.provoked(0, 3, 0), 127);
        due.is("of 2 to 3, by 8", x.provoked(0, 1, 0), 238);
        due.says("Promise 13", "100 times from, 10 times to, and DEGREE; NONE.");
        DuelSeconds y = Due.with("d3;g911;g900;g901");
        // Of 2 to 0 or 1 the other one alone could be for both.
        due.is("of three", y.provoked(0, 1, 0), -9);
        // For 0 there is 2 alone, for 1 there are 2, 3: who is insulted finds first, so 0 is to be that one.
        due.is("of 1 to 0", Due.with("d4;g922;g923;g901;g901").provoked(2, 3, 0), 101);
        due.is("by 9, as all are touchy by that", Due.with("d4;g112;g123;g130;g101").provoked(2, 3, 0), 19);
        // 4 and 5 are seconds for each other alone.
        DuelSeconds z = Due.with("d6;g911;g900;g933;g922;g901;g901");
        due.is("of 4 to 5: 0, then 1", z.provoked(0, 1, 0), 451);
    }

    private static void provokedBehindADay() {
        due.says("Part 3", "MEET each other at some DAWN behind that DAY");
        DuelSeconds x = Due.with(FOUR);
        due.is("on day 0", x.provoked(2, 3, 0), 16);
        due.is("on day 29", x.provoked(2, 3, 29), 16);
        x.insult(0, 1, 3, 9);
        due.is("dawn 4 isn't behind day 4, and 3 rests at dawn 5", x.provoked(2, 3, 4), -9);
        due.is("3 rests at dawn 6", x.provoked(2, 3, 5), -9);
        due.is("3 is free at dawn 7", x.provoked(2, 3, 6), 16);
        due.is("not 2 and 3, but 0 and 1", x.provoked(0, 1, 4), 238);
    }

    /** The document doesn't ask that they would not meet without it. */
    private static void provokedMeetingInAnyCase() {
        due.says("Part 3", "PROVOKED: the one INSULT more");
        DuelSeconds x = Due.with(FOUR);
        x.insult(0, 1, 3, 9);
        due.is("dawn 4 is behind day 3", x.provoked(2, 3, 3), 11);
        due.is("dawn 4 is behind day 0", x.provoked(2, 3, 0), 11);
        due.is("nothing is told by it", x.many(1), 1);
    }

    /** The chain of 30 meetings, see Part2Test: of 0 to 1 on day 29 0 and 3 meet at dawn 35 first. */
    private static void provokedByAChain() {
        due.says("Part 3", "at some DAWN behind that DAY");
        DuelSeconds x = Due.with("d5;o714;h720;h700;h810;h823");
        due.is("six dawns behind it", x.provoked(0, 3, 29), 11);
    }

    /** Chains that a search found; what is told then shows how they go. */
    private static void provokedAtTheLastDawn() {
        due.says("Part 3", "at some DAWN behind that DAY");
        DuelSeconds x = Due.with("d6;h853;g943;o110;o924;h802;o844");
        x.insult(0, 3, 28, 9);
        due.is("at dawn 59", x.provoked(2, 5, 29), 11);
        due.is("for all that comes without", x.many(3), 2);
        x.insult(0, 1, 29, 1);
        for (int k = 0; k < 31; k++) {
            int pair = 1 << x.met(k, 1) | 1 << x.met(k, 2);
            due.is("2 and 5 in meeting " + k, pair == (1 << 2 | 1 << 5) ? 1 : 0, k == 0 ? 1 : 0);
        }
        due.is("on day 28, which isn't behind day 29", x.met(0, 0), 29);
        due.met(x, 31, 59, x.met(31, 1), 7 - x.met(31, 1));
        due.is("a second", x.met(31, 1) % 3, 2);
        due.is("and no more", x.many(3), 32);
        // They would meet at a dawn 60, of 0 to 2.
        DuelSeconds y = Due.with("d6;h911;o142;h835;h852;o930;o824");
        y.insult(3, 0, 29, 9);
        due.is("never by dawn 59", y.provoked(1, 3, 29), -9);
        y.insult(0, 2, 29, 1);
        due.is("though it goes on so far", y.met(y.many(3) - 1, 0), 59);
    }

    private static void provokedWithEight() {
        due.says("Part 3", "(also where there are 8; numbered behind all that are told)");
        DuelSeconds x = Due.with(FOUR);
        for (int k = 0; k < 8; k++) {
            x.insult(2, 3, k, 1);
        }
        due.is("with eight", x.provoked(2, 3, 0), 16);
        due.is("with eight", x.provoked(2, 3, 29), 16);
        due.is("there still are eight", x.many(1), 8);
        due.is("and no ninth", x.insult(0, 1, 0, 9), -4);
        due.is("and no meeting", x.many(3), 0);
        // Seven of eight that go on as they are.
        x.sorry(1);
        x.insult(0, 1, 9, 6);
        due.met(x, 0, 10, 2, 3, 1, 0, 3);
        due.is("on day 20", x.provoked(2, 3, 20), 16);
    }

    /** Of 1 to 2 on day 5: for 2 there is 3, for 1 there is 0: 3 is in a meeting when another one's turn comes. */
    private static void provokedBehindAllTold() {
        due.says("Part 3", "numbered behind all that are told");
        DuelSeconds x = Due.with(FOUR);
        x.insult(1, 2, 5, 9);
        due.met(x, 0, 6, 3, 0, 2, 1, 3);
        due.is("on the same day", x.provoked(2, 3, 5), -9);
        due.is("a day ahead", x.provoked(2, 3, 4), 16);
    }

    private static void provokedNone() {
        due.says("Promise 13", "and DEGREE; NONE.");
        DuelSeconds x = Due.with("d2;g911;g900");
        due.is("both are whom it concerns", x.provoked(0, 1, 0), -9);
        DuelSeconds y = Due.with(FOUR);
        y.arrest(3, true);
        due.is("3 is arrested", y.provoked(2, 3, 0), -9);
        y.arrest(3, false);
        due.is("and let go", y.provoked(2, 3, 0), 16);
    }

    private static void provokedRefusals() {
        due.says("Promise 13", "UNKNOWN: PERSONS (they are one: so, too); OUTSIDE: day (0 .. 29).");
        DuelSeconds x = Due.with(FOUR);
        for (int p : new int[] {LEAST, -1, 4, MOST}) {
            due.is("provoked(" + p + ", 0, 0)", x.provoked(p, 0, 0), -1);
            due.is("provoked(0, " + p + ", 0)", x.provoked(0, p, 0), -1);
            due.is("provoked(" + p + ", 0, 30)", x.provoked(p, 0, 30), -1);
            due.is("provoked(0, " + p + ", -1)", x.provoked(0, p, -1), -1);
        }
        for (int p = 0; p < 4; p++) {
            due.is("one: " + p, x.provoked(p, p, 0), -1);
            due.is("one: " + p + ", and day", x.provoked(p, p, 30), -1);
        }
        for (int day : new int[] {LEAST, -1, 30, MOST}) {
            due.is("day " + day, x.provoked(2, 3, day), -2);
        }
        due.is("without a coast", new DuelSeconds().provoked(0, 1, 0), -1);
    }
}
