/** Promises 11 to 14: worth, arrests, provoked, odds. Answers are worked out by hand. */
public final class ApologiesTest {
    private static final Due due = new Due("ApologiesTest");
    private static final long LOST = Long.MIN_VALUE;
    private static final String SIX = "d6;g512;h934;o205;h150;g853;o621";
    // 2 and 3 meet of 0 to 1 (6 or more) and of 1 to 0 (5 or more), 3 is hurt by 1; 0 and 1 meet of 2 to 3
    // (8 or more) and of 3 to 2 (7 or more), 1 is hurt by 1; nobody answers what is taken.
    private static final String FOUR = "d4;g512;g423;g330;g201";

    public static void main(String[] args) {
        refusals();
        worth();
        worthBelowNone();
        arrests();
        arrestsAheadOfADawn();
        arrestsMoreThanAre();
        provoked();
        provokedAlreadyMet();
        provokedWithEight();
        provokedByAChain();
        odds();
        oddsOfAll();
        due.end();
    }

    private static void refusals() {
        DuelSeconds none = new DuelSeconds();
        due.is("arrests(-1) without a coast", none.arrests(-1), -2);
        due.is("arrests(60) without a coast", none.arrests(60), -2);
        due.is("arrests(0) without a coast", none.arrests(0), -3);
        due.is("worth(0) without a coast", none.worth(0), -1);
        due.is("provoked without a coast", none.provoked(0, 1, 0), -1);
        due.is("odds without a coast", none.odds(0, 0, 0), LOST);
        DuelSeconds x = Due.with(FOUR);
        due.is("arrests(60)", x.arrests(60), -2);
        due.is("worth(0)", x.worth(0), -1);
        x.insult(0, 1, 0, 9);
        due.is("worth(-1)", x.worth(-1), -1);
        due.is("worth(1)", x.worth(1), -1);
        due.is("provoked(0, 0, 30)", x.provoked(0, 0, 30), -1);
        due.is("provoked(4, 0, 0)", x.provoked(4, 0, 0), -1);
        due.is("provoked(0, -1, 0)", x.provoked(0, -1, 0), -1);
        due.is("provoked(0, 1, -1)", x.provoked(0, 1, -1), -2);
        due.is("provoked(0, 1, 30)", x.provoked(0, 1, 30), -2);
        due.is("odds(4, 0, 0)", x.odds(4, 0, 0), LOST);
        due.is("odds(-1, 0, 0)", x.odds(-1, 0, 0), LOST);
        due.is("odds(0, -1, 0)", x.odds(0, -1, 0), LOST);
        due.is("odds(0, 60, 0)", x.odds(0, 60, 0), LOST);
        due.is("odds(0, 0, -1)", x.odds(0, 0, -1), LOST);
        due.is("odds(0, 0, 2)", x.odds(0, 0, 2), LOST);
    }

    private static void worth() {
        DuelSeconds x = Due.with(SIX);
        x.insult(0, 1, 0, 9);
        due.is("two meetings come of it", x.worth(0), 1002);
        DuelSeconds y = Due.with(FOUR);
        y.insult(0, 1, 0, 9);
        y.insult(0, 1, 0, 9);
        y.insult(0, 1, 9, 1);
        y.insult(2, 3, 0, 9);
        due.is("the other one stands in", y.worth(0), 1000);
        due.is("nothing comes of it", y.worth(1), 1000);
        due.is("let pass", y.worth(2), 1000);
        due.is("one", y.worth(3), 1001);
        due.is("it was not taken back", y.many(1), 4);
    }

    /**
     * 2 (9) and 3 (1) meet at dawn 1, and 3 rests up to dawn 10. Without that 3 and 4, of like honour, meet
     * at each of the dawns 2 to 4; with it 4 alone could stand for both.
     */
    private static void worthBelowNone() {
        DuelSeconds x = Due.with("d6;g912;g923;g934;g155;g155;g144");
        x.insult(0, 1, 0, 9);
        x.insult(5, 2, 1, 9);
        x.insult(5, 2, 2, 9);
        x.insult(5, 2, 3, 9);
        due.is("meetings", x.many(3), 1);
        due.met(x, 0, 1, 2, 3, 1, 0, 3);
        due.is("two fewer with it", x.worth(0), 998);
    }

    private static void arrests() {
        DuelSeconds x = Due.with(SIX);
        due.is("no insults", x.arrests(59), 0);
        x.insult(0, 1, 0, 9);
        due.is("by dawn 0", x.arrests(0), 0);
        // Of 2, 3, 4, 5 (2 stands for 0 alone) any two that are left could meet.
        due.is("by dawn 1", x.arrests(1), 4 + 8 + 16);
        due.is("by dawn 59", x.arrests(59), 4 + 8 + 16);
        DuelSeconds y = Due.with(FOUR);
        y.insult(0, 1, 0, 9);
        due.is("the least of several", y.arrests(1), 4);
        y.insult(2, 3, 0, 9);
        due.is("one for each", y.arrests(1), 1 + 4);
        due.is("nobody is arrested by it", y.ofPerson(0, 5), 0);
    }

    private static void arrestsAheadOfADawn() {
        DuelSeconds x = Due.with(FOUR);
        x.insult(0, 1, 0, 9);
        x.insult(2, 3, 4, 9);
        due.is("by dawn 0", x.arrests(0), 0);
        due.is("by dawn 4", x.arrests(4), 4);
        due.is("by dawn 5", x.arrests(5), 5);
    }

    private static void arrestsMoreThanAre() {
        DuelSeconds x = Due.with(FOUR);
        x.insult(0, 1, 0, 9);
        x.insult(2, 3, 0, 9);
        x.arrest(3, true);
        due.is("3 is arrested", x.arrests(59), 1);
        x.arrest(1, true);
        due.is("1 and 3 are", x.arrests(59), 0);
        x.arrest(0, true);
        x.arrest(2, true);
        due.is("all are", x.arrests(59), 0);
    }

    private static void provoked() {
        DuelSeconds x = Due.with(FOUR);
        due.is("2 and 3", x.provoked(2, 3, 0), 16);
        due.is("3 and 2", x.provoked(3, 2, 29), 16);
        due.is("0 and 1", x.provoked(0, 1, 0), 238);
        // Of 0 to 2: 3, then 1. Of 0 to 3: 1, then 2.
        due.is("1 and 3", x.provoked(1, 3, 0), 27);
        due.is("1 and 2", x.provoked(1, 2, 0), 38);
        due.is("nothing was told by it", x.many(1), 0);
        x.arrest(0, true);
        due.is("0 is arrested", x.provoked(0, 1, 0), -9);
        DuelSeconds two = Due.with("d2;g911;g900");
        due.is("both are concerned", two.provoked(0, 1, 0), -9);
    }

    private static void provokedAlreadyMet() {
        DuelSeconds x = Due.with(FOUR);
        x.insult(0, 1, 3, 9);
        due.is("they meet at dawn 4 in any case", x.provoked(2, 3, 2), 11);
        due.is("dawn 4 is behind day 3", x.provoked(2, 3, 3), 11);
        due.is("dawn 4 isn't behind day 4, and 3 rests", x.provoked(2, 3, 4), -9);
        due.is("3 rests at dawn 6", x.provoked(2, 3, 5), -9);
        due.is("3 is free at dawn 7", x.provoked(2, 3, 6), 16);
    }

    private static void provokedWithEight() {
        DuelSeconds x = Due.with(FOUR);
        for (int k = 0; k < 8; k++) {
            x.insult(2, 3, k, 1);
        }
        due.is("full", x.insult(2, 3, 0, 1), -4);
        due.is("one more", x.provoked(2, 3, 0), 16);
        due.is("still eight", x.many(1), 8);
        due.is("still full", x.insult(2, 3, 0, 1), -4);
        DuelSeconds y = Due.with(FOUR);
        y.insult(1, 2, 5, 9);
        // Of 1 to 2 on day 5: 3, then 0 meet. What is numbered behind it finds 3 and 0 taken at dawn 6.
        due.met(y, 0, 6, 3, 0, 2, 1, 3);
        due.is("behind all that are told", y.provoked(2, 3, 5), -9);
        due.is("on the day ahead 3 is free", y.provoked(2, 3, 4), 16);
    }

    /** Of 0 to 1 comes that 1 and 0 meet a dawn later: in the chain of MeetingsTest. */
    private static void provokedByAChain() {
        DuelSeconds x = Due.with(SIX);
        due.is("a later dawn", x.provoked(0, 1, 0), 11);
        due.is("on day 29, too", x.provoked(0, 1, 29), 11);
    }

    private static void odds() {
        DuelSeconds x = Due.with(FOUR);
        share(x, 3, 59, 0, 1);
        x.insult(0, 1, 0, 9);
        share(x, 3, 0, 0, 1);
        share(x, 3, 1, 1, 2);
        share(x, 2, 59, 0, 1);
        x.insult(0, 1, 5, 9);
        share(x, 3, 5, 1, 2);
        share(x, 3, 6, 3, 4);
        x.insult(0, 1, 5, 1);
        share(x, 3, 59, 3, 4);
        x.insult(2, 3, 0, 9);
        share(x, 3, 59, 3, 4);
        share(x, 1, 59, 1, 2);
        due.is("all insults stay", x.many(1), 4);
        x.arrest(3, true);
        share(x, 3, 59, 0, 1);
    }

    private static void oddsOfAll() {
        DuelSeconds x = Due.with(FOUR);
        for (int k = 0; k < 8; k++) {
            x.insult(0, 1, 3 * k, 9);
        }
        share(x, 3, 59, 255, 256);
        share(x, 3, 21, 127, 128);
        share(x, 3, 1, 1, 2);
        share(x, 0, 59, 0, 1);
        x.arrest(2, true);
        share(x, 3, 59, 0, 1);
    }

    private static void share(DuelSeconds x, int p, int dawn, long upper, long lower) {
        due.is("odds(" + p + ", " + dawn + ", 0)", x.odds(p, dawn, 0), upper);
        due.is("odds(" + p + ", " + dawn + ", 1)", x.odds(p, dawn, 1), lower);
    }
}
