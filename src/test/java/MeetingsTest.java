/** Promises 7 to 10: meetings, met, free, second. Answers are worked out by hand from the document. */
public final class MeetingsTest {
    private static final Due due = new Due("MeetingsTest");
    private static final String SIX = "d6;g512;h934;o205;h150;g853;o621";
    private static final String FOUR = "d4;g512;g423;g330;g201";

    public static void main(String[] args) {
        refusals();
        chain();
        chainWithArrest();
        answeredFromTouchyOn();
        busyAtOneDawn();
        toldAheadOfTaken();
        likeHonour();
        takenBehindTheLastDay();
        secondOfSecond();
        chainUpToTheLastDawn();
        due.end();
    }

    private static void refusals() {
        DuelSeconds none = new DuelSeconds();
        due.is("meetings(-1) without a coast", none.meetings(-1), -2);
        due.is("meetings(60) without a coast", none.meetings(60), -2);
        due.is("meetings(59) without a coast", none.meetings(59), -3);
        due.is("met without a coast", none.met(0, 9), -1);
        DuelSeconds x = Due.with(FOUR);
        due.is("meetings(0)", x.meetings(0), 0);
        due.is("meetings(59)", x.meetings(59), 0);
        due.is("meetings(60)", x.meetings(60), -2);
        due.is("met(0, 0) of none", x.met(0, 0), -1);
        x.insult(0, 1, 0, 9);
        due.is("met(-1, 0)", x.met(-1, 0), -1);
        due.is("met(1, 9)", x.met(1, 9), -1);
        due.is("met(0, -1)", x.met(0, -1), -2);
        due.is("met(0, 6)", x.met(0, 6), -2);
        due.is("free(-1, 60)", x.free(-1, 60), -1);
        due.is("free(4, 0)", x.free(4, 0), -1);
        due.is("free(0, -1)", x.free(0, -1), -2);
        due.is("free(0, 60)", x.free(0, 60), -2);
        due.is("second(0, 0, 60)", x.second(0, 0, 60), -1);
        due.is("second(4, 0, 0)", x.second(4, 0, 0), -1);
        due.is("second(0, 4, 0)", x.second(0, 4, 0), -1);
        due.is("second(-1, 0, 0)", x.second(-1, 0, 0), -1);
        due.is("second(0, 1, -1)", x.second(0, 1, -1), -2);
        due.is("second(0, 1, 60)", x.second(0, 1, 60), -2);
    }

    /** 3 and 2 meet at dawn 1, 3 is hurt by 1; 5 takes it from 2; 1 and 0 meet, 0 is hurt by 4. */
    private static void chain() {
        DuelSeconds x = Due.with(SIX);
        x.insult(0, 1, 0, 9);
        due.is("meetings(0)", x.meetings(0), 0);
        due.is("meetings(1)", x.meetings(1), 1);
        due.is("meetings(2)", x.meetings(2), 2);
        due.is("meetings(59)", x.meetings(59), 2);
        due.is("many(3)", x.many(3), 2);
        due.met(x, 0, 1, 3, 2, 1, 0, 3);
        due.met(x, 1, 2, 1, 0, 5, 2, 0);
        due.is("free(3, 1)", x.free(3, 1), 1);
        due.is("free(3, 2)", x.free(3, 2), 0);
        due.is("free(3, 3)", x.free(3, 3), 0);
        due.is("free(3, 4)", x.free(3, 4), 1);
        due.is("free(2, 2)", x.free(2, 2), 1);
        due.is("free(0, 2)", x.free(0, 2), 1);
        due.is("free(0, 3)", x.free(0, 3), 0);
        due.is("free(0, 7)", x.free(0, 7), 0);
        due.is("free(0, 8)", x.free(0, 8), 1);
        due.is("free(0, 59)", x.free(0, 59), 1);
        due.is("second(1, 0, 0)", x.second(1, 0, 0), 3);
        due.is("second(1, 0, 1)", x.second(1, 0, 1), 3);
        due.is("second(1, 0, 2)", x.second(1, 0, 2), 4);
        due.is("second(1, 4, 2)", x.second(1, 4, 2), 5);
        due.is("second(0, 1, 1)", x.second(0, 1, 1), 2);
        due.is("second(0, 2, 1)", x.second(0, 2, 1), 1);
        due.is("second(2, 5, 2)", x.second(2, 5, 2), 0);
        due.is("second(2, 5, 3)", x.second(2, 5, 3), 1);
        due.is("second(2, 5, 8)", x.second(2, 5, 8), 0);
    }

    /** With 2 arrested 4 stands for 0: 3 is hurt by 7; 5 takes it from 4; 1 and 0 meet. */
    private static void chainWithArrest() {
        DuelSeconds x = Due.with(SIX);
        x.insult(0, 1, 0, 9);
        x.arrest(2, true);
        due.is("many(3)", x.many(3), 2);
        due.met(x, 0, 1, 3, 4, 1, 0, 3);
        due.met(x, 1, 2, 1, 0, 5, 4, 0);
        due.is("free(2, 0)", x.free(2, 0), 0);
        due.is("free(3, 9)", x.free(3, 9), 0);
        due.is("free(3, 10)", x.free(3, 10), 1);
        due.is("second(4, 5, 2)", x.second(4, 5, 2), 1);
        x.arrest(2, false);
        due.met(x, 0, 1, 3, 2, 1, 0, 3);
    }

    /** Person 1 is touchy by 6. */
    private static void answeredFromTouchyOn() {
        DuelSeconds x = Due.with(FOUR);
        x.insult(0, 1, 0, 5);
        due.is("let pass", x.many(3), 0);
        x.insult(0, 1, 0, 6);
        due.is("answered", x.many(3), 1);
        due.met(x, 0, 1, 2, 3, 1, 0, 3);
        due.is("not on its own day", x.meetings(0), 0);
        due.is("on the dawn behind", x.meetings(1), 1);
        DuelSeconds late = Due.with(FOUR);
        late.insult(0, 1, 29, 6);
        due.is("day 29, dawn 29", late.meetings(29), 0);
        due.is("day 29, dawn 30", late.meetings(30), 1);
    }

    /** Who met at a dawn, hurt or not, meets no more at it. */
    private static void busyAtOneDawn() {
        DuelSeconds x = Due.with(FOUR);
        x.insult(0, 1, 0, 9);
        x.insult(1, 0, 0, 9);
        due.is("both seconds are in a meeting", x.many(3), 1);
        x.insult(2, 3, 0, 9);
        due.is("the other two are free", x.many(3), 2);
        due.met(x, 1, 1, 0, 1, 3, 2, 1);
        x.insult(1, 0, 1, 9);
        due.is("3 rests at dawn 2", x.many(3), 2);
        x.insult(1, 0, 2, 9);
        due.is("3 rests at dawn 3", x.many(3), 2);
        x.insult(1, 0, 3, 9);
        due.is("3 is free at dawn 4", x.many(3), 3);
        due.met(x, 2, 4, 2, 3, 0, 1, 3);
        due.is("free(3, 4)", x.free(3, 4), 1);
        due.is("free(3, 5)", x.free(3, 5), 0);
    }

    /**
     * 5 takes an insult of day 1 from 2, as in the chain. One of day 1 that is told is ahead of it: of 4
     * to 0 the seconds are 1 and 5, and 5 is hurt by 3 (2 takes that from 1, but lets it pass). Then, of
     * 2 to 5, 0 stands for 5, but nobody for 2: 0 and 1 are taken, 3 rests.
     */
    private static void toldAheadOfTaken() {
        DuelSeconds x = Due.with(SIX);
        x.insult(0, 1, 0, 9);
        x.insult(4, 0, 1, 9);
        due.is("meetings(1)", x.meetings(1), 1);
        due.is("meetings(2)", x.meetings(2), 2);
        due.met(x, 1, 2, 1, 5, 0, 4, 5);
        due.is("many(3)", x.many(3), 2);
    }

    private static void likeHonour() {
        DuelSeconds x = Due.with("d4;g512;g423;g330;g301");
        x.insult(0, 1, 0, 9);
        x.insult(0, 1, 1, 9);
        due.met(x, 0, 1, 2, 3, 1, 0, -9);
        due.met(x, 1, 2, 2, 3, 1, 0, -9);
        due.is("many(3)", x.many(3), 2);
        due.is("free(3, 2)", x.free(3, 2), 1);
    }

    /**
     * Of 0 to 1 on day 29: 2 and 3 meet at dawn 30, 3 is hurt by 1, and 0 takes it from 2 (day 30, though
     * none could be told on that day): 1 for 0, then for 2 only 3, who rests: nothing comes of it.
     * With one more to stand for 2 they meet at dawn 31.
     */
    private static void takenBehindTheLastDay() {
        DuelSeconds x = Due.with("d4;o912;o923;o930;o801");
        x.insult(0, 1, 29, 1);
        due.is("many(3)", x.many(3), 1);
        due.met(x, 0, 30, 2, 3, 1, 0, 3);
        DuelSeconds y = Due.with("d5;o912;o923;o934;o801;o900");
        y.insult(0, 1, 29, 1);
        due.is("meetings(30)", y.meetings(30), 1);
        due.is("meetings(31)", y.meetings(31), 2);
        due.met(y, 1, 31, 1, 4, 0, 2, -9);
    }

    /** Of who made it the other's second is out: both have only 2. */
    private static void secondOfSecond() {
        DuelSeconds x = Due.with("d3;g922;g922;g901");
        due.is("second(1, 0, 1)", x.second(1, 0, 1), 2);
        due.is("second(0, 1, 1)", x.second(0, 1, 1), 2);
        x.insult(0, 1, 0, 9);
        due.is("no second for both", x.many(3), 0);
        due.is("nobody: second(2, 0, 0)", x.second(2, 0, 0), 1);
        x.arrest(1, true);
        due.is("nobody: second(2, 0, 0)", x.second(2, 0, 0), -9);
    }

    /**
     * From dawn 30 on 2, 1, 0 are hurt by 1, in turn, by 4 and 3, in turn, and each time the next one's
     * chain finds who is free again just now.
     */
    private static void chainUpToTheLastDawn() {
        DuelSeconds x = Due.with("d5;o714;h720;h700;h810;h823");
        x.insult(0, 1, 29, 9);
        due.is("meetings(29)", x.meetings(29), 0);
        due.is("meetings(58)", x.meetings(58), 29);
        due.is("meetings(59)", x.meetings(59), 30);
        due.is("many(3)", x.many(3), 30);
        due.met(x, 0, 30, 2, 4, 1, 0, 2);
        due.met(x, 1, 31, 1, 3, 0, 4, 1);
        due.met(x, 2, 32, 0, 4, 2, 3, 0);
        due.met(x, 3, 33, 2, 3, 1, 4, 2);
        due.met(x, 4, 34, 1, 4, 0, 3, 1);
        due.met(x, 5, 35, 0, 3, 2, 4, 0);
        due.met(x, 6, 36, 2, 4, 1, 3, 2);
        due.met(x, 29, 59, 0, 3, 2, 4, 0);
        due.is("met(30, 0)", x.met(30, 0), -1);
        due.is("free(0, 59)", x.free(0, 59), 1);
        due.is("free(1, 59)", x.free(1, 59), 0);
        due.is("free(2, 59)", x.free(2, 59), 0);
        due.is("second(2, 4, 59)", x.second(2, 4, 59), 0);
        due.is("worth(0)", x.worth(0), 1030);
        due.is("upper odds(2, 30)", x.odds(2, 30, 0), 1);
        due.is("upper odds(0, 31)", x.odds(0, 31, 0), 0);
        due.is("upper odds(0, 32)", x.odds(0, 32, 0), 1);
    }
}
