/**
 * Sentence by sentence, what part 2 and the promises 7 to 10 say of edges. Answers are worked out from the
 * document's words; the remarks tell how.
 */
public final class Part2Test {
    private static final Due due = new Due("Part2Test");
    private static final int LEAST = Due.LEAST, MOST = Due.MOST;
    // Of 0 to 1 (by 6 or more) 2 and 3 meet, 3 is hurt by 1, and 0 lets that pass; of 1 to 0 (by 5 or more)
    // 2 and 3 meet, too; of 2 to 3 (by 8 or more) 0 and 1, 1 is hurt by 1, and 2 lets that pass.
    private static final String FOUR = Due.FOUR;
    // As FOUR, but 2 and 3 are of like honour.
    private static final String ALIKE = "d4;g512;g423;g330;g301";
    // Of 0 to 1 3 and 2 meet, 3 is hurt by 1; 5 takes that from 2: 1 and 0 meet, 0 is hurt by 4.
    private static final String SIX = "d6;g512;h934;o205;h150;g853;o621";

    public static void main(String[] args) {
        dawnBehindADay();
        dawnsInOrder();
        toldByNumbers();
        toldAheadOfTaken();
        takenAsTheyCame();
        ofInsultedFirst();
        elseNothing();
        chainOfFriends();
        neitherOfBoth();
        norTheOthersSecond();
        notArrested();
        inNoMeeting();
        hurtByOne();
        hurtByEight();
        hurtOnes();
        takenByAFriend();
        notFromItself();
        takenDegree();
        takenDay();
        numbersOfMeetings();
        meetings();
        met();
        free();
        second();
        due.end();
    }

    // ---- dawns, and what comes first at one

    private static void dawnBehindADay() {
        due.says("Part 2", "DAWNS 0 .. 59: at each, in order, each INSULT of the DAY one less that is ANSWERED");
        for (int day : new int[] {0, 1, 28, 29}) {
            DuelSeconds x = Due.with(FOUR);
            x.insult(0, 1, day, 6);
            due.is("day " + day + ", up to that dawn", x.meetings(day), 0);
            due.is("day " + day + ", up to the next dawn", x.meetings(day + 1), 1);
            due.is("day " + day + ", its dawn", x.met(0, 0), day + 1);
            due.is("day " + day + ", up to dawn 59", x.meetings(59), 1);
        }
        DuelSeconds x = Due.with(FOUR);
        x.insult(0, 1, 0, 5);
        due.is("one that isn't answered", x.meetings(59), 0);
        x.insult(0, 1, 0, 6);
        due.is("one that is", x.meetings(59), 1);
    }

    private static void dawnsInOrder() {
        due.says("Part 2", "at each, in order");
        DuelSeconds x = Due.with(FOUR);
        x.insult(2, 3, 29, 9);
        x.insult(0, 1, 0, 9);
        due.met(x, 0, 1, 2, 3, 1, 0, 3);
        due.met(x, 1, 30, 0, 1, 3, 2, 1);
        due.is("many(3)", x.many(3), 2);
    }

    /** Both find 2 and 3, and no others. */
    private static void toldByNumbers() {
        due.says("Part 2", "first those that are told, by numbers");
        DuelSeconds x = Due.with(FOUR);
        x.insult(0, 1, 0, 9);
        x.insult(1, 0, 0, 9);
        due.met(x, 0, 1, 2, 3, 1, 0, 3);
        due.is("many(3)", x.many(3), 1);
        DuelSeconds y = Due.with(FOUR);
        y.insult(1, 0, 0, 9);
        y.insult(0, 1, 0, 9);
        due.met(y, 0, 1, 2, 3, 0, 1, 3);
        due.is("many(3)", y.many(3), 1);
        DuelSeconds z = Due.with(FOUR);
        z.insult(2, 3, 0, 9);
        z.insult(0, 1, 0, 9);
        due.met(z, 0, 1, 0, 1, 3, 2, 1);
        due.met(z, 1, 1, 2, 3, 1, 0, 3);
    }

    /**
     * Of 4 to 3 at dawn 1: 1 and 2, 1 is hurt by 1, and 0 (touchy by 1) takes that from 2. At dawn 2 comes of
     * 0 to 3 first: for 3 (1 is hurt) 4, for 0 (4, 3) 4's friend 2; 4 is hurt by 8, and 2 isn't insulted by
     * itself. Of 2 to 0 then: for 0 (4 is in a meeting) 3, for 2 nobody. Were it first, 4 and 3 would meet.
     */
    private static void toldAheadOfTaken() {
        due.says("Part 2", "first those that are told, by numbers, then those taken (below)");
        DuelSeconds x = Due.with("d5;g943;h804;h900;h311;g122");
        x.insult(4, 3, 0, 9);
        due.met(x, 0, 1, 1, 2, 3, 4, 1);
        due.met(x, 1, 2, 4, 3, 0, 2, 4);
        x.insult(0, 3, 1, 9);
        due.met(x, 0, 1, 1, 2, 3, 4, 1);
        due.met(x, 1, 2, 4, 2, 3, 0, 4);
        due.is("many(3)", x.many(3), 2);
    }

    /**
     * At dawn 1 of 4 to 3: 5 and 2, 5 is hurt by 4, 3 takes that from 2. Of 0 to 4: 3 and 1, 3 is hurt by 3, 5
     * takes that from 1. At dawn 2 of 2 to 3 (touchy by 4): for 3 (5 is hurt) 4, for 2 1; 4 is hurt, 3 takes
     * it from 1. Of 1 to 5 (touchy by 3): for 5 (3 is hurt) 1's friend 2, for 1 nobody is left. Were it first,
     * 2 and 4 would meet. At dawn 3 of 1 to 3: for 3 4's friend 2, for 1 nobody.
     */
    private static void takenAsTheyCame() {
        due.says("Part 2", "then those taken (below), as they came");
        DuelSeconds x = Due.with("d6;h113;h732;o814;h454;o332;o431");
        x.insult(4, 3, 0, 9);
        x.insult(0, 4, 0, 9);
        due.met(x, 0, 1, 5, 2, 3, 4, 5);
        due.met(x, 1, 1, 3, 1, 4, 0, 3);
        due.met(x, 2, 2, 4, 1, 3, 2, 4);
        due.is("many(3)", x.many(3), 3);
    }

    private static void ofInsultedFirst() {
        due.says("Part 2", "the SECOND of the one to whom it was made is found, then that of the one who made it");
        DuelSeconds x = Due.with(FOUR);
        due.is("of the one", x.second(1, 0, 1), 2);
        due.is("of the other one, were it first", x.second(0, 1, 1), 2);
        x.insult(0, 1, 0, 9);
        due.is("of whom was insulted", x.met(0, 1), 2);
        due.is("of who insulted", x.met(0, 2), 3);
        x.sorry(1);
        x.insult(1, 0, 0, 9);
        due.is("of whom was insulted", x.met(0, 1), 2);
        due.is("of who insulted", x.met(0, 2), 3);
    }

    /** Of 0 to 1: for 1 there is 2, for 0 nobody else. So 2 is free for 4, of 3 to 4, and 0 is for 3. */
    private static void elseNothing() {
        due.says("Part 2", "if both are there, they MEET; else nothing comes of it");
        DuelSeconds x = Due.with("d5;g512;g520;g501;g501;g520");
        x.insult(0, 1, 0, 9);
        due.is("the maker has none", x.many(3), 0);
        x.insult(3, 4, 0, 9);
        due.met(x, 0, 1, 2, 0, 4, 3, -9);
        due.is("many(3)", x.many(3), 1);
        DuelSeconds y = Due.with("d3;g911;g900;g901");
        y.insult(0, 1, 0, 9);
        due.is("both have none", y.many(3), 0);
        // Of 3 to 0, 1 arrested: for 0 (1, 1, and 1's friends 0, 3) there is nobody, for 3 there is 2.
        DuelSeconds z = Due.with("d4;g911;g903;g900;g922");
        z.arrest(1, true);
        z.insult(3, 0, 0, 9);
        due.is("of 0", z.second(0, 3, 1), -9);
        due.is("of 3", z.second(3, 0, 1), 2);
        due.is("the insulted one has none", z.many(3), 0);
        z.arrest(1, false);
        due.met(z, 0, 1, 1, 2, 0, 3, -9);
    }

    // ---- who is whose second

    /** Who is found is arrested, and the next one is found: 0 and 5 are both. */
    private static void chainOfFriends() {
        due.says("Part 2", "the first of its FRIENDS, its second FRIEND, the first FRIEND's FRIENDS (first, second), "
            + "the second FRIEND's FRIENDS who is FREE");
        inTurn("d6;g512;g534;g505;g500;g500;g500", 1, 2, 3, 4, -9);
        inTurn("d6;g512;g505;g534;g500;g500;g500", 1, 2, 3, 4, -9);
        inTurn("d6;g521;g534;g505;g500;g500;g500", 2, 1, 3, 4, -9);
        inTurn("d6;g512;g543;g505;g500;g500;g500", 1, 2, 4, 3, -9);
        inTurn("d6;g512;g505;g543;g500;g500;g500", 1, 2, 4, 3, -9);
        inTurn("d6;g512;g503;g544;g500;g500;g500", 1, 2, 3, 4, -9);
        inTurn("d6;g512;g540;g533;g500;g500;g500", 1, 2, 4, 3, -9);
        inTurn("d6;g511;g523;g500;g500;g500;g500", 1, 2, 3, -9);
        // 3 is a friend of a friend's friend, and no further one is looked for.
        inTurn("d6;g511;g522;g533;g544;g500;g500", 1, 2, -9);
    }

    private static void inTurn(String text, int... want) {
        DuelSeconds x = Due.with(text);
        for (int p : want) {
            due.is("second(0, 5, 0) of " + text, x.second(0, 5, 0), p);
            x.arrest(p, true);
        }
    }

    private static void neitherOfBoth() {
        due.says("Part 2", "and neither of both");
        DuelSeconds x = Due.with(FOUR);
        due.is("the first friend is the other one", x.second(0, 1, 0), 2);
        due.is("the second friend is", x.second(0, 2, 0), 1);
        x.arrest(1, true);
        due.is("0: 1 is arrested, 2 is the other one, 3", x.second(0, 2, 0), 3);
        x.arrest(3, true);
        due.is("0: 1, 3 are arrested, 2's friend is itself", x.second(0, 2, 0), -9);
        DuelSeconds two = Due.with("d2;g911;g900");
        due.is("but for both there is nobody", two.second(0, 1, 0), -9);
        two.insult(0, 1, 0, 9);
        due.is("so nobody meets", two.many(3), 0);
    }

    private static void norTheOthersSecond() {
        due.says("Part 2", "(nor, of who made it, the other one's SECOND)");
        DuelSeconds x = Due.with("d3;g922;g922;g901");
        x.insult(0, 1, 0, 9);
        due.is("both have 2 alone", x.many(3), 0);
        DuelSeconds y = Due.with("d4;g923;g923;g901;g901");
        y.insult(0, 1, 0, 9);
        due.met(y, 0, 1, 2, 3, 1, 0, -9);
        y.sorry(1);
        y.insult(1, 0, 0, 9);
        due.met(y, 0, 1, 2, 3, 0, 1, -9);
    }

    // ---- who is free

    private static void notArrested() {
        due.says("Part 2", "FREE at a DAWN: not ARRESTED");
        DuelSeconds x = Due.with(FOUR);
        x.arrest(3, true);
        for (int dawn : new int[] {0, 1, 30, 59}) {
            due.is("free(3, " + dawn + ")", x.free(3, dawn), 0);
            due.is("free(2, " + dawn + ")", x.free(2, dawn), 1);
        }
        x.insult(0, 1, 0, 9);
        due.is("a second is arrested", x.many(3), 0);
        x.arrest(3, false);
        due.is("free(3, 0)", x.free(3, 0), 1);
        due.is("and is let go", x.many(3), 1);
        x.arrest(0, true);
        x.arrest(1, true);
        due.is("whom it concerns are", x.many(3), 1);
        x.arrest(2, true);
        due.is("2 is, too", x.many(3), 0);
    }

    private static void inNoMeeting() {
        due.says("Part 2", "in no MEETING of this DAWN by then");
        DuelSeconds x = Due.with(ALIKE);
        x.insult(0, 1, 0, 9);
        x.insult(0, 1, 0, 9);
        due.is("the same two at one dawn", x.many(3), 1);
        x.insult(0, 1, 1, 9);
        due.is("at the next one", x.many(3), 2);
        due.met(x, 1, 2, 2, 3, 1, 0, -9);
        x.insult(2, 3, 0, 9);
        due.is("whom it concerns are free for others", x.many(3), 3);
        due.met(x, 1, 1, 0, 1, 3, 2, 1);
        // All six are seconds at one dawn; nobody is left for a fourth meeting.
        DuelSeconds y = Due.with("d6;g533;g522;g555;g544;g511;g500");
        y.insult(0, 1, 0, 5);
        y.insult(2, 3, 0, 5);
        y.insult(4, 5, 0, 5);
        y.insult(0, 3, 0, 5);
        due.met(y, 0, 1, 2, 3, 1, 0, -9);
        due.met(y, 1, 1, 4, 5, 3, 2, -9);
        due.met(y, 2, 1, 0, 1, 5, 4, -9);
        due.is("many(3)", y.many(3), 3);
    }

    private static void hurtByOne() {
        due.says("Part 2", "and not HURT (one HURT at a DAWN d by m is FREE again from DAWN d and m and 2 on)");
        DuelSeconds x = Due.with(FOUR);
        x.insult(0, 1, 0, 9);
        int[] free = {1, 1, 0, 0, 1, 1};
        for (int dawn = 0; dawn < 6; dawn++) {
            due.is("hurt by 1 at dawn 1: free(3, " + dawn + ")", x.free(3, dawn), free[dawn]);
            due.is("not hurt: free(2, " + dawn + ")", x.free(2, dawn), 1);
        }
        due.is("free(3, 59)", x.free(3, 59), 1);
        x.insult(0, 1, 1, 9);
        x.insult(0, 1, 2, 9);
        due.is("for 0 there is only 3, not at dawns 2 and 3", x.many(3), 1);
        x.insult(0, 1, 3, 9);
        due.is("but at dawn 4", x.many(3), 2);
        due.met(x, 1, 4, 2, 3, 1, 0, 3);
        due.is("hurt again: free(3, 6)", x.free(3, 6), 0);
        due.is("hurt again: free(3, 7)", x.free(3, 7), 1);
    }

    /** 0 takes it by 8 from 2: for 0 there is 1, for 2 nobody. */
    private static void hurtByEight() {
        due.says("Part 2", "(one HURT at a DAWN d by m is FREE again from DAWN d and m and 2 on)");
        for (int day : new int[] {0, 29}) {
            DuelSeconds x = Due.with("d4;g512;g423;g930;g101");
            x.insult(0, 1, day, 9);
            due.is("many(3)", x.many(3), 1);
            due.is("at that dawn", x.free(3, day + 1), 1);
            due.is("one behind it", x.free(3, day + 2), 0);
            due.is("nine behind it", x.free(3, day + 10), 0);
            due.is("ten behind it", x.free(3, day + 11), 1);
            due.is("at the last one", x.free(3, 59), 1);
        }
    }

    // ---- who is hurt, and what a friend takes

    private static void hurtOnes() {
        due.says("Part 2", "They MEET: of two of unlike HONOUR the one of less is HURT by m, the difference.");
        DuelSeconds x = Due.with(FOUR);
        x.insult(0, 1, 0, 9);
        due.is("3 and 2: the second of who insulted", x.met(0, 5), 3);
        DuelSeconds y = Due.with("d4;g512;g423;g230;g301");
        y.insult(0, 1, 0, 9);
        due.is("2 and 3: the second of whom was insulted", y.met(0, 5), 2);
        due.is("by 1", y.free(2, 3), 0);
        due.is("by 1", y.free(2, 4), 1);
        DuelSeconds z = Due.with(ALIKE);
        z.insult(0, 1, 0, 9);
        due.is("3 and 3: NONE", z.met(0, 5), -9);
        due.is("nobody rests", z.free(2, 2) + z.free(3, 2), 2);
        DuelSeconds o = Due.with("d4;g512;g423;o230;g301");
        o.insult(0, 1, 0, 9);
        due.is("it isn't by kinds", o.met(0, 5), 2);
    }

    private static void takenByAFriend() {
        due.says("Part 2", "The first FRIEND of who is HURT takes it as an INSULT from the other SECOND");
        DuelSeconds x = Due.with(SIX);
        x.insult(0, 1, 0, 9);
        due.met(x, 0, 1, 3, 2, 1, 0, 3);
        due.met(x, 1, 2, 1, 0, 5, 2, 0);
        due.is("many(3)", x.many(3), 2);
        due.is("it isn't one that is told", x.many(1), 1);
        for (int k = 1; k < 8; k++) {
            due.is("eight can be told", x.insult(0, 1, 29, 1), k);
        }
        due.is("and it is taken besides", x.met(1, 3), 5);
        // All of like honour: nothing to take.
        DuelSeconds y = Due.with("d6;g912;h934;o905;h950;g953;o921");
        y.insult(0, 1, 0, 9);
        due.is("nobody is hurt", y.many(3), 1);
    }

    /** 2 is hurt by 8, its first friend is 3, who did it. Were 3 to take it, 0 and 1 would meet. */
    private static void notFromItself() {
        due.says("Part 2", "(if that is not itself)");
        DuelSeconds x = Due.with("d4;g512;g423;g130;g901");
        x.insult(0, 1, 0, 9);
        due.met(x, 0, 1, 2, 3, 1, 0, 2);
        due.is("many(3)", x.many(3), 1);
        // In SIX 0 is hurt by 1, its first friend: 1 is touchy by 1.
        DuelSeconds y = Due.with(SIX);
        y.insult(0, 1, 0, 9);
        due.is("who hurt 0", y.met(1, 1), 1);
        due.is("meetings(59)", y.meetings(59), 2);
    }

    /** SIX, with another one as 5: m is 1, or, with 2 arrested, 7 (for 0 comes 4, of honour 8). */
    private static void takenDegree() {
        due.says("Part 2", "of DEGREE m");
        takenOf("g921", false, 2);
        takenOf("g821", false, 1);
        takenOf("g321", true, 2);
        takenOf("g221", true, 1);
        takenOf("h121", true, 2);
        takenOf("h121", false, 1);
    }

    private static void takenOf(String fifth, boolean isTwoArrested, int want) {
        DuelSeconds x = Due.with("d6;g512;h934;o205;h150;g853;" + fifth);
        x.insult(0, 1, 0, 9);
        x.arrest(2, isTwoArrested);
        due.is("meetings, 5 is " + fifth, x.many(3), want);
    }

    /**
     * From dawn 30 on 2, 1, 0 are hurt by 1, in turn, by 4 and 3, in turn, and each time the next one's chain
     * finds who is free again just now, up to dawn 59: what is taken then is of a day without a dawn.
     */
    private static void takenDay() {
        due.says("Part 2", "of the DAY of this DAWN's number");
        DuelSeconds six = Due.with(SIX);
        six.insult(0, 1, 3, 9);
        due.is("a dawn", six.met(0, 0), 4);
        due.is("the next one", six.met(1, 0), 5);
        DuelSeconds x = Due.with("d5;o714;h720;h700;h810;h823");
        x.insult(0, 1, 29, 9);
        due.is("many(3)", x.many(3), 30);
        for (int k = 0; k < 30; k++) {
            due.is("dawn of meeting " + k, x.met(k, 0), 30 + k);
            due.is("who is hurt", x.met(k, 5), 2 - k % 3);
        }
        due.is("meetings(58)", x.meetings(58), 29);
        due.is("meetings(59)", x.meetings(59), 30);
        due.is("met(30, 0)", x.met(30, 0), -1);
    }

    private static void numbersOfMeetings() {
        due.says("Part 3", "MEETINGS are numbered from 0 on as they come.");
        DuelSeconds x = Due.with(FOUR);
        due.is("none: met(0, 0)", x.met(0, 0), -1);
        x.insult(2, 3, 7, 9);
        x.insult(0, 1, 3, 9);
        x.insult(1, 0, 7, 9);
        due.is("met(0, 0)", x.met(0, 0), 4);
        due.is("met(1, 4)", x.met(1, 4), 2);
        due.is("met(2, 4)", x.met(2, 4), 1);
        due.is("met(3, 0)", x.met(3, 0), -1);
    }

    // ---- promises 7 to 10

    private static void meetings() {
        due.says("Promise 7", "How many MEETINGS there are at DAWNS up to one.");
        DuelSeconds x = Due.with(ALIKE);
        due.is("none of none", x.meetings(59), 0);
        for (int k = 0; k < 8; k++) {
            x.insult(0, 1, k == 7 ? 29 : k, 9);
        }
        int[] dawns = {0, 1, 2, 7, 8, 29, 30, 59};
        int[] want = {0, 1, 2, 7, 7, 7, 8, 8};
        for (int k = 0; k < dawns.length; k++) {
            due.is("meetings(" + dawns[k] + ")", x.meetings(dawns[k]), want[k]);
        }
        x.arrest(3, true);
        due.is("3 is arrested", x.meetings(59), 0);
        x.arrest(3, false);
        due.is("and let go", x.meetings(59), 8);
        due.says("Promise 7", "OUTSIDE: dawn; STATE: there is no COAST.");
        DuelSeconds none = new DuelSeconds();
        for (int dawn : new int[] {LEAST, -1, 60, MOST}) {
            due.is("meetings(" + dawn + ")", x.meetings(dawn), -2);
            due.is("meetings(" + dawn + ") without a coast", none.meetings(dawn), -2);
        }
        due.is("meetings(0) without a coast", none.meetings(0), -3);
        due.is("meetings(59) without a coast", none.meetings(59), -3);
        Due.coast(none, "d2;g11");
        due.is("meetings(0) behind a text that isn't taken", none.meetings(0), -3);
    }

    private static void met() {
        due.says("Promise 8", "0 DAWN, 1 the SECOND of whom was insulted, 2 of who insulted, 3 who was insulted, 4 who "
            + "insulted, 5 who is HURT (NONE).");
        DuelSeconds x = Due.with(ALIKE);
        x.insult(3, 2, 29, 9);
        x.insult(1, 0, 3, 5);
        due.met(x, 0, 4, 2, 3, 0, 1, -9);
        // Of 3 to 2 for 2: 3 is concerned, 0; for 3: 0 is taken, 1.
        due.met(x, 1, 30, 0, 1, 2, 3, 1);
        due.says("Promise 8", "UNKNOWN; OUTSIDE.");
        for (int k : new int[] {LEAST, -1, 2, MOST}) {
            due.is("met(" + k + ", 0)", x.met(k, 0), -1);
            due.is("met(" + k + ", 6)", x.met(k, 6), -1);
        }
        for (int what : new int[] {LEAST, -1, 6, MOST}) {
            due.is("met(1, " + what + ")", x.met(1, what), -2);
        }
        due.is("met(0, 0) without a coast", new DuelSeconds().met(0, 0), -1);
        due.is("met(0, 6) without a coast", new DuelSeconds().met(0, 6), -1);
    }

    private static void free() {
        due.says("Promise 9", "Whether a PERSON is FREE at a DAWN, ahead of its MEETINGS (1, 0).");
        DuelSeconds x = Due.with(FOUR);
        x.insult(0, 1, 29, 9);
        due.is("at its dawn 3 meets, behind it rests", x.free(3, 30), 1);
        due.is("free(3, 31)", x.free(3, 31), 0);
        due.is("free(3, 32)", x.free(3, 32), 0);
        due.is("free(3, 33)", x.free(3, 33), 1);
        due.is("free(0, 30), whom it concerns", x.free(0, 30), 1);
        due.is("free(0, 0)", x.free(0, 0), 1);
        due.is("free(3, 59)", x.free(3, 59), 1);
        due.says("Promise 9", "UNKNOWN; OUTSIDE.");
        for (int p : new int[] {LEAST, -1, 4, MOST}) {
            due.is("free(" + p + ", 0)", x.free(p, 0), -1);
            due.is("free(" + p + ", 60)", x.free(p, 60), -1);
        }
        for (int dawn : new int[] {LEAST, -1, 60, MOST}) {
            due.is("free(3, " + dawn + ")", x.free(3, dawn), -2);
        }
        due.is("free(0, 0) without a coast", new DuelSeconds().free(0, 0), -1);
    }

    private static void second() {
        due.says("Promise 10", "Who would be the SECOND of a PERSON against another one at a DAWN, ahead of its "
            + "MEETINGS; NONE.");
        DuelSeconds x = Due.with("d4;g911;g900;g930;g201");
        due.is("3: 0", x.second(3, 1, 59), 0);
        due.is("0: 1 and who is its friend are both", x.second(0, 1, 0), -9);
        // In FOUR 3 stands for 1 if 2 is arrested; hurt, it rests at dawns 2 and 3.
        DuelSeconds y = Due.with(FOUR);
        y.insult(0, 1, 0, 9);
        due.is("second(2, 1, 1)", y.second(2, 1, 1), 3);
        due.is("second(2, 1, 2)", y.second(2, 1, 2), 0);
        due.is("second(2, 1, 3)", y.second(2, 1, 3), 0);
        due.is("second(2, 1, 4)", y.second(2, 1, 4), 3);
        due.is("second(2, 1, 0)", y.second(2, 1, 0), 3);
        due.is("second(2, 1, 59)", y.second(2, 1, 59), 3);
        y.arrest(2, true);
        due.is("who is arrested has one, too", y.second(2, 1, 0), 3);
        due.says("Promise 10", "UNKNOWN: PERSONS (they are one: so, too); OUTSIDE.");
        for (int p : new int[] {LEAST, -1, 4, MOST}) {
            due.is("second(" + p + ", 0, 0)", y.second(p, 0, 0), -1);
            due.is("second(0, " + p + ", 0)", y.second(0, p, 0), -1);
            due.is("second(" + p + ", " + p + ", 60)", y.second(p, p, 60), -1);
            due.is("second(0, " + p + ", -1)", y.second(0, p, -1), -1);
        }
        for (int p = 0; p < 4; p++) {
            due.is("one: second(" + p + ", " + p + ", 0)", y.second(p, p, 0), -1);
            due.is("one: second(" + p + ", " + p + ", 60)", y.second(p, p, 60), -1);
        }
        for (int dawn : new int[] {LEAST, -1, 60, MOST}) {
            due.is("second(0, 1, " + dawn + ")", y.second(0, 1, dawn), -2);
        }
        due.is("second(0, 1, 0) without a coast", new DuelSeconds().second(0, 1, 0), -1);
    }
}
