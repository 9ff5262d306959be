/**
 * Sentence by sentence, what part 1 and the promises 1 to 6 say of edges. Refusals that leave all as it was
 * stand in RefusedTest. Answers are worked out from the document's words.
 */
public final class Part1Test {
    private static final Due due = new Due("Part1Test");
    private static final int LEAST = Due.LEAST, MOST = Due.MOST;
    private static final String TWO = "d2;g111;h100";
    private static final String SIX = "d6;g512;h934;o205;h150;g853;o621";

    public static void main(String[] args) {
        calls();
        constants();
        newObject();
        countOfPersons();
        letters();
        honours();
        friends();
        firstFault();
        endsTooSoon();
        codes();
        codesCutToALane();
        coastFromPlaceOn();
        coastOfALane();
        coastRefusals();
        coastFaults();
        kinds();
        makesAllAnew();
        touchy();
        answered();
        ofPerson();
        insultNumbers();
        insultRefusals();
        insultFull();
        sorry();
        sorryOfTheLast();
        arrest();
        due.end();
    }

    // ---- what it is, the public face, promise 1

    private static void calls() {
        due.says("What it is", "An object is used for at most 512 calls after it has been made");
        DuelSeconds x = Due.with(Due.FOUR);
        int made = Due.FOUR.length() + 2;
        due.is("insult", x.insult(0, 1, 0, 9), 0);
        for (made++; made < 508; made++) {
            due.is("call " + (made + 1), x.sorry(0), 1);
        }
        due.is("call 509", x.many(3), 1);
        due.is("call 510", x.met(0, 5), 3);
        due.is("call 511", x.odds(3, 59, 1), 2);
        due.is("call 512", x.insult(1, 0, 0, 9), 1);
        due.says("What it is", "what later calls answer is free");
        for (int k = 0; k < 600; k++) {
            x.sheet(k % 4, k % 3, k % 51);
            x.put(k % 4, k % 50, k);
            x.copy(k % 4, 0, (k + 3) % 4, 0, k % 51);
            x.insult(k % 4, (k + 1) % 4, k % 30, k % 10);
            x.reading(k % 4, k % 60, true);
            x.provoked(k % 4, (k + 1) % 4, k % 30);
            x.row(k % 4, k % 3, 0, k % 51);
        }
    }

    private static void constants() {
        due.says("The public face", "UNKNOWN = -1, OUTSIDE = -2, STATE = -3, FULL = -4, NONE = -9");
        due.is("UNKNOWN", DuelSeconds.UNKNOWN, -1);
        due.is("OUTSIDE", DuelSeconds.OUTSIDE, -2);
        due.is("STATE", DuelSeconds.STATE, -3);
        due.is("FULL", DuelSeconds.FULL, -4);
        due.is("NONE", DuelSeconds.NONE, -9);
        due.says("The public face", "LOST = Long.MIN_VALUE");
        due.is("LOST", DuelSeconds.LOST, -9223372036854775808L);
    }

    private static void newObject() {
        due.says("Promise 1", "No COAST (no PERSONS)");
        DuelSeconds x = new DuelSeconds();
        due.is("many(0)", x.many(0), 0);
        due.is("ofPerson(0, 0)", x.ofPerson(0, 0), -1);
        due.is("meetings(0)", x.meetings(0), -3);
        due.is("arrests(0)", x.arrests(0), -3);
        due.is("never()", x.never(), -3);
        due.is("caught()", x.caught(), -3);
        due.says("Promise 1", "SHEETS have nothing");
        for (int k = 0; k < 4; k++) {
            due.is("put(" + k + ", 0, 0)", x.put(k, 0, 0), -11);
            due.is("lose(" + k + ")", x.lose(k), 0);
        }
    }

    // ---- texts: each code behind the first ones of a text, and whether a text goes on with it

    private static void countOfPersons() {
        due.says("Part 1", "d, a digit 2 .. 6 (PERSONS, numbered from 0 on)");
        goesOn("", "d");
        goesOn("d", "23456");
        due.is("coast of two", Due.coast(new DuelSeconds(), TWO), 2);
        due.is("coast of six", Due.coast(new DuelSeconds(), SIX), 6);
        DuelSeconds x = Due.with(SIX);
        due.is("no person -1", x.ofPerson(-1, 1), -1);
        due.is("the first is person 0", x.ofPerson(0, 1), 5);
        due.is("the last is person 5", x.ofPerson(5, 1), 6);
        due.is("no person 6", x.ofPerson(6, 1), -1);
    }

    private static void letters() {
        due.says("Part 1", "then for each: ; and a letter");
        goesOn("d2", ";");
        goesOn("d2;g111", ";");
        goesOn("d6;g512;h934;o205;h150;g853", ";");
        goesOn("d2;", "gho");
        goesOn("d2;g111;", "gho");
        goesOn("d6;g512;h934;o205;h150;g853;", "gho");
    }

    private static void honours() {
        due.says("Part 1", "a digit 1 .. 9 (HONOUR)");
        goesOn("d2;g", "123456789");
        goesOn("d2;g111;o", "123456789");
        goesOn("d6;g512;h934;o205;h150;g853;h", "123456789");
    }

    private static void friends() {
        due.says("Part 1", "two digits (its FRIENDS: PERSONS, the first one, the second one");
        goesOn("d2;g1", "1");
        goesOn("d3;g1", "12");
        goesOn("d6;g1", "12345");
        goesOn("d6;g51", "12345");
        due.says("Part 1", "not itself, but perhaps one twice)");
        goesOn("d6;g512;h9", "02345");
        goesOn("d6;g512;h90", "02345");
        goesOn("d6;g512;h934;o205;h150;g853;o6", "01234");
        goesOn("d6;g512;h934;o205;h150;g8", "01235");
        goesOn("d6;g512;h934;o205;h150;g85", "01235");
        due.is("each has the other one twice", Due.coast(new DuelSeconds(), "d2;g111;h100"), 2);
        due.is("all have one twice", Due.coast(new DuelSeconds(), "d3;g122;h122;o111"), 3);
    }

    /** Of all codes, which go on behind what is there: of the others the fault is at their place. */
    private static void goesOn(String begun, String allowed) {
        int place = begun.length();
        for (int code = -140; code < 400; code++) {
            DuelSeconds x = new DuelSeconds();
            x.sheet(2, 2, place + 1);
            for (int i = 0; i < place; i++) {
                x.put(2, i, begun.charAt(i));
            }
            x.put(2, place, code);
            boolean goes = code >= 0 && allowed.indexOf((char) code) >= 0;
            due.is("text " + begun + " and code " + code, x.coast(2, 2, 0, place + 1),
                goes ? -100 - (place + 1) : -100 - place);
        }
    }

    private static void firstFault() {
        due.says("Part 1", "FIRST FAULT: the place (from 0 on) of the first code with which no TEXT goes on");
        text("e2;g111;h100", -100);
        text("d9;x000;y999", -101);
        text("d2;x000;y999", -103);
        text("d2;g111;h111", -110);
        text("d2;g111;h10x", -111);
        for (int code = -5; code < 130; code++) {
            DuelSeconds x = new DuelSeconds();
            Due.coast(x, TWO + "?");
            x.put(0, 12, code);
            due.is("a whole text and code " + code, x.coast(0, 0, 0, 13), -112);
        }
        text(SIX + ";g100", -132);
        text("d5;g512;h934;o200;h140;g803;o621", -127);
    }

    private static void endsTooSoon() {
        due.says("Part 1", "how many codes there are, if it just ends too soon");
        for (int many = 0; many < SIX.length(); many++) {
            text(SIX.substring(0, many), -100 - many);
        }
        text(SIX, 6);
        for (int many = 0; many < TWO.length(); many++) {
            text(TWO.substring(0, many), -100 - many);
        }
        text(TWO, 2);
        text("d6;g512;h934;o205;h150;g853", -127);
    }

    private static void text(String text, int want) {
        DuelSeconds x = Due.with("d3;g112;h102;o901");
        due.is("text " + text, Due.coast(x, text), want);
        due.is("fault()", x.fault(), 0);
        due.is("how many persons", x.many(0), want < 0 ? 3 : want);
    }

    private static void codes() {
        due.says("Part 1", "(Codes: d 100, g 103, h 104, o 111, ; 59, digits 48 .. 57.)");
        int[] text = {100, 51, 59, 103, 49, 49, 50, 59, 104, 57, 48, 50, 59, 111, 53, 49, 48};
        for (int lane = 0; lane < 3; lane++) {
            DuelSeconds x = new DuelSeconds();
            x.sheet(3, lane, text.length);
            for (int i = 0; i < text.length; i++) {
                x.put(3, i, text[i]);
            }
            due.is("coast of lane " + lane, x.coast(3, lane, 0, text.length), 3);
            int[][] want = {{0, 1, 1, 2}, {1, 9, 0, 2}, {2, 5, 1, 0}};
            for (int p = 0; p < 3; p++) {
                for (int what = 0; what < 4; what++) {
                    due.is("ofPerson(" + p + ", " + what + ")", x.ofPerson(p, what), want[p][what]);
                }
            }
        }
    }

    private static void codesCutToALane() {
        due.says("Part 5", "what comes to a cell of it is cut to its LANE (with its sign)");
        int[] more = {256, 65536, 1 << 24};
        for (int lane = 0; lane < 3; lane++) {
            for (int over : more) {
                DuelSeconds x = new DuelSeconds();
                Due.coast(x, TWO, 0, lane);
                x.put(0, 0, 'd' + over);
                boolean isCut = lane == 0 || lane == 1 && over > 256;
                due.is("d and " + over + " in lane " + lane, x.coast(0, lane, 0, 12), isCut ? 2 : -100);
            }
        }
    }

    // ---- promise 2

    private static void coastFromPlaceOn() {
        due.says("Promise 2", "A COAST by a TEXT of n cells of a SHEET from i on");
        DuelSeconds x = new DuelSeconds();
        x.sheet(0, 0, 50);
        for (int i = 0; i < 12; i++) {
            x.put(0, i, TWO.charAt(i));
            x.put(0, 38 + i, TWO.charAt(i));
        }
        due.is("the first twelve", x.coast(0, 0, 0, 12), 2);
        due.is("the last twelve", x.coast(0, 0, 38, 12), 2);
        due.is("eleven of them", x.coast(0, 0, 38, 11), -111);
        due.is("one ahead", x.coast(0, 0, 37, 13), -100);
        due.is("one behind", x.coast(0, 0, 0, 13), -112);
        due.is("all", x.coast(0, 0, 0, 50), -112);
        due.is("none", x.coast(0, 0, 0, 0), -100);
        due.is("none at the end", x.coast(0, 0, 50, 0), -100);
        due.says("Promise 2", "how many PERSONS; -100 less the FIRST FAULT");
        due.is("the longest text, of 32 codes", Due.coast(x, SIX), 6);
        due.is("50 codes, all but the last", Due.coast(x, SIX + "                  "), -132);
    }

    private static void coastOfALane() {
        due.says("Promise 2", "taken as a row of a LANE");
        for (int lane = 0; lane < 3; lane++) {
            for (int other = 0; other < 3; other++) {
                DuelSeconds x = new DuelSeconds();
                Due.coast(x, TWO, 1, lane);
                due.is("a row of lane " + lane + " as one of " + other, x.coast(1, other, 0, 12),
                    lane == other ? 2 : -12);
                due.is("fault()", x.fault(), lane == other ? 0 : 2);
            }
        }
    }

    private static void coastRefusals() {
        due.says("Promise 2", "UNKNOWN; OUTSIDE: lane");
        for (int sheet = 0; sheet < 4; sheet++) {
            due.is("sheet " + sheet, Due.coast(new DuelSeconds(), TWO, sheet, 0), 2);
        }
        DuelSeconds x = new DuelSeconds();
        due.is("sheet -1", x.coast(-1, 0, 0, 0), -1);
        due.is("sheet 4", x.coast(4, 0, 0, 0), -1);
        due.is("the least sheet", x.coast(LEAST, 0, 0, 0), -1);
        due.is("the most sheet", x.coast(MOST, 0, 0, 0), -1);
        due.is("lane -1", x.coast(0, -1, 0, 0), -2);
        due.is("lane 3", x.coast(0, 3, 0, 0), -2);
        due.is("lane 0", x.coast(0, 0, 0, 0), -11);
        due.is("lane 2", x.coast(0, 2, 0, 0), -11);
        due.is("sheet and lane", x.coast(4, 3, 0, 0), -1);
        due.is("lane and NULL", x.coast(3, 3, 0, 0), -2);
    }

    private static void coastFaults() {
        DuelSeconds x = new DuelSeconds();
        Due.coast(x, TWO, 0, 1);
        due.says("Promise 2", "FAULTS CAST (nothing is no CAST), NULL");
        for (int lane = 0; lane < 3; lane++) {
            faulty(x, "nothing as lane " + lane, x.coast(3, lane, -1, -1), 1);
        }
        faulty(x, "CAST ahead of SIZE and INDEX", x.coast(0, 0, -1, -1), 2);
        faulty(x, "CAST ahead of SIZE and INDEX", x.coast(0, 2, 13, -1), 2);
        due.says("Promise 2", "SIZE: n is below 0");
        faulty(x, "n -1", x.coast(0, 1, 0, -1), 4);
        faulty(x, "the least n", x.coast(0, 1, 0, LEAST), 4);
        faulty(x, "SIZE ahead of INDEX", x.coast(0, 1, -1, -1), 4);
        faulty(x, "SIZE ahead of INDEX", x.coast(0, 1, 13, -1), 4);
        due.is("n 0", x.coast(0, 1, 0, 0), -100);
        due.says("Promise 2", "INDEX: not all cells are there; -100 less it");
        due.is("all cells", x.coast(0, 1, 0, 12), 2);
        faulty(x, "one too many", x.coast(0, 1, 0, 13), 3);
        faulty(x, "one too many from 1 on", x.coast(0, 1, 1, 12), 3);
        faulty(x, "the last and one more", x.coast(0, 1, 11, 2), 3);
        due.is("the last", x.coast(0, 1, 11, 1), -100);
        faulty(x, "from -1 on", x.coast(0, 1, -1, 1), 3);
        faulty(x, "the most of i and n", x.coast(0, 1, MOST, MOST), 3);
        faulty(x, "i and n that wrap", x.coast(0, 1, 1, MOST), 3);
        faulty(x, "the least i", x.coast(0, 1, LEAST, 1), 3);
        due.says("Refusals", "of cells from i on also where i is not 0 .. how many there are, if none of them is "
            + "taken, too");
        faulty(x, "none from -1 on", x.coast(0, 1, -1, 0), 3);
        due.is("none from 12 on", x.coast(0, 1, 12, 0), -100);
        faulty(x, "none from 13 on", x.coast(0, 1, 13, 0), 3);
        due.is("two persons stay", x.many(0), 2);
    }

    private static void faulty(DuelSeconds x, String what, long answer, int fault) {
        due.is(what, answer, -10 - fault);
        due.is("fault(): " + what, x.fault(), fault);
    }

    // ---- kinds, what a text makes anew, how touchy they are

    private static void kinds() {
        due.says("Part 1", "Kinds: 0 GENTLEMAN (g); 1 HOTHEAD (h), a GENTLEMAN; 2 OFFICER (o), a HOTHEAD.");
        DuelSeconds x = Due.with("d3;o512;g502;h501");
        int[] kinds = {2, 0, 1};
        for (int p = 0; p < 3; p++) {
            due.is("ofPerson(" + p + ", 0)", x.ofPerson(p, 0), kinds[p]);
            for (int kind = 0; kind < 3; kind++) {
                due.is("as(" + p + ", " + kind + ")", x.as(p, kind), kind <= kinds[p] ? 1 : -12);
            }
        }
    }

    private static void makesAllAnew() {
        due.says("Part 1", "A TEXT that is taken makes all anew, but for the SHEETS and TRACE: no INSULTS, nobody "
            + "ARRESTED, no READINGS.");
        DuelSeconds x = used();
        due.is("the same text", x.coast(0, 0, 0, 22), 4);
        due.is("insults", x.many(1), 0);
        due.is("meetings", x.many(3), 0);
        due.is("readings", x.many(2), 0);
        for (int p = 0; p < 4; p++) {
            due.is("ofPerson(" + p + ", 5)", x.ofPerson(p, 5), 0);
        }
        due.is("trace()", x.trace(), 32);
        due.is("the sheet of the text", x.cell(0, 21, 0), '1');
        due.is("another sheet", x.cell(1, 1, 2), -70000);
        due.is("no sheet", x.lose(2), 0);
        due.is("insults are numbered anew", x.insult(0, 1, 0, 9), 0);
        due.is("readings are numbered anew", x.reading(0, 0, false), 0);
        due.is("the full ones have room", x.many(3), 1);
        x.put(0, 3, 'o');
        due.is("nobody changes with the sheet", x.ofPerson(0, 0), 0);

        due.says("Part 1", "A TEXT that is taken");
        DuelSeconds y = used();
        due.is("a text that isn't", y.coast(0, 0, 0, 21), -121);
        due.is("insults", y.many(1), 8);
        due.is("readings", y.many(2), 8);
        due.is("arrested", y.ofPerson(3, 5), 1);
        due.is("a text of two", Due.coast(y, TWO), 2);
        due.is("insults", y.many(1), 0);
        due.is("persons", y.ofPerson(2, 0), -1);
    }

    /** Of FOUR with all that a text makes anew: eight insults, eight readings, all arrested. */
    private static DuelSeconds used() {
        DuelSeconds x = Due.with(Due.FOUR);
        for (int k = 0; k < 8; k++) {
            x.insult(0, 1, k, 9);
            x.reading(0, k, true);
        }
        for (int p = 0; p < 4; p++) {
            x.arrest(p, true);
        }
        x.tell(0);
        x.tell(0);
        x.sheet(1, 2, 2);
        x.put(1, 1, -70000);
        return x;
    }

    private static void touchy() {
        due.says("Part 1", "TOUCHY: a GENTLEMAN 10 less HONOUR");
        touchy("g1", 9);
        touchy("g5", 5);
        touchy("g9", 1);
        due.says("Part 1", "a HOTHEAD 2 less than that, 1 at least");
        touchy("h1", 7);
        touchy("h6", 2);
        touchy("h7", 1);
        touchy("h8", 1);
        touchy("h9", 1);
        due.says("Part 1", "an OFFICER 1 less than a HOTHEAD, 1 at least.");
        touchy("o1", 6);
        touchy("o5", 2);
        touchy("o6", 1);
        touchy("o7", 1);
        touchy("o8", 1);
        touchy("o9", 1);
    }

    private static void touchy(String person, int want) {
        due.is("how touchy " + person + " is", Due.with("d2;" + person + "11;g100").ofPerson(0, 4), want);
    }

    private static void answered() {
        due.says("Part 1", "An INSULT is ANSWERED by the one to whom it is made, if its DEGREE is as much as that one "
            + "is TOUCHY, or more.");
        answered("g1", 9);
        answered("g2", 8);
        answered("g9", 1);
        answered("h1", 7);
        answered("h6", 2);
        answered("h7", 1);
        answered("h8", 1);
        answered("o1", 6);
        answered("o5", 2);
        answered("o6", 1);
        answered("o7", 1);
        // Not by the one who makes it: person 0 is touchy by 5, person 1 by 6.
        DuelSeconds x = Due.with(Due.FOUR);
        x.insult(0, 1, 0, 5);
        due.is("5 to one who is touchy by 6", x.many(3), 0);
        x.insult(1, 0, 0, 5);
        due.is("5 to one who is touchy by 5", x.many(3), 1);
    }

    /** In FOUR, with another one as person 1: of 0 to 1 only 2 and 3 meet, and nothing comes of that. */
    private static void answered(String person, int touchy) {
        for (int degree = 1; degree <= 9; degree++) {
            DuelSeconds x = Due.with("d4;g512;" + person + "23;g330;g201");
            x.insult(0, 1, 0, degree);
            due.is(person + ", insulted by " + degree, x.many(3), degree >= touchy ? 1 : 0);
        }
    }

    // ---- promises 3 to 6

    private static void ofPerson() {
        due.says("Promise 3", "Of a PERSON: 0 kind, 1 HONOUR, 2 its first FRIEND, 3 its second, 4 how TOUCHY, 5 whether "
            + "it is ARRESTED (1, 0).");
        DuelSeconds x = Due.with("d5;h912;g143;g501;o140;g530");
        int[] first = {1, 9, 1, 2, 1, 0};
        int[] fourth = {2, 1, 4, 0, 6, 0};
        x.arrest(4, true);
        for (int what = 0; what < 6; what++) {
            due.is("ofPerson(0, " + what + ")", x.ofPerson(0, what), first[what]);
            due.is("ofPerson(3, " + what + ")", x.ofPerson(3, what), fourth[what]);
        }
        due.is("ofPerson(4, 5)", x.ofPerson(4, 5), 1);
        x.arrest(4, false);
        due.is("ofPerson(4, 5)", x.ofPerson(4, 5), 0);
        due.says("Promise 3", "UNKNOWN; OUTSIDE.");
        for (int p : new int[] {LEAST, -1, 5, MOST}) {
            due.is("person " + p, x.ofPerson(p, 0), -1);
            due.is("person " + p + " and what", x.ofPerson(p, 6), -1);
        }
        for (int what : new int[] {LEAST, -1, 6, MOST}) {
            due.is("what " + what, x.ofPerson(4, what), -2);
        }
    }

    private static void insultNumbers() {
        due.says("Part 2", "numbered by how many there are ahead (the first one is 0)");
        DuelSeconds x = Due.with(Due.FOUR);
        due.is("the first one", x.insult(0, 1, 9, 9), 0);
        due.is("the second one, though of a day ahead", x.insult(0, 1, 0, 9), 1);
        due.is("the same once more", x.insult(0, 1, 0, 9), 2);
        x.sorry(2);
        due.is("behind two that were taken back", x.insult(3, 2, 0, 9), 1);
    }

    private static void insultRefusals() {
        DuelSeconds x = Due.with(Due.FOUR);
        due.says("Promise 4", "UNKNOWN: PERSONS (they are one: so, too)");
        for (int p : new int[] {LEAST, -1, 4, MOST}) {
            due.is("from " + p, x.insult(p, 0, 0, 1), -1);
            due.is("to " + p, x.insult(0, p, 0, 1), -1);
            due.is("from and to " + p, x.insult(p, p, 0, 1), -1);
            due.is("from, day and degree", x.insult(p, 0, 30, 10), -1);
            due.is("to, day and degree", x.insult(0, p, -1, 0), -1);
        }
        for (int p = 0; p < 4; p++) {
            due.is("one, " + p, x.insult(p, p, 0, 1), -1);
            due.is("one, " + p + ", and day", x.insult(p, p, 30, 1), -1);
        }
        due.says("Promise 4", "OUTSIDE: day, degree");
        for (int day : new int[] {LEAST, -1, 30, MOST}) {
            due.is("day " + day, x.insult(0, 1, day, 1), -2);
        }
        for (int degree : new int[] {LEAST, 0, 10, MOST}) {
            due.is("degree " + degree, x.insult(0, 1, 0, degree), -2);
        }
        due.is("none of them is there", x.many(1), 0);
        due.says("Part 2", "on a DAY (0 .. 29) from a PERSON to another one, of a DEGREE (1 .. 9)");
        due.is("day 0, degree 1", x.insult(0, 1, 0, 1), 0);
        due.is("day 29, degree 9", x.insult(3, 0, 29, 9), 1);
        due.is("all of the first", x.insult(1, 3, 0, 9), 2);
        due.is("all of the last", x.insult(3, 2, 29, 1), 3);
    }

    private static void insultFull() {
        due.says("Part 2", "INSULTS, 8 at most");
        DuelSeconds x = Due.with(Due.FOUR);
        for (int k = 0; k < 8; k++) {
            due.is("insult " + k, x.insult(0, 1, k, 1), k);
        }
        due.is("a ninth", x.insult(0, 1, 0, 1), -4);
        due.is("a ninth, of other persons", x.insult(2, 3, 29, 9), -4);
        due.is("still eight", x.many(1), 8);
        due.says("Promise 4", "An INSULT: its number. UNKNOWN: PERSONS (they are one: so, too); OUTSIDE: day, degree; FULL.");
        due.is("UNKNOWN ahead of FULL", x.insult(0, 4, 0, 1), -1);
        due.is("UNKNOWN ahead of FULL", x.insult(2, 2, 0, 1), -1);
        due.is("OUTSIDE ahead of FULL", x.insult(0, 1, 30, 1), -2);
        due.is("OUTSIDE ahead of FULL", x.insult(0, 1, 0, 0), -2);
        x.sorry(1);
        due.is("room again", x.insult(0, 1, 0, 1), 7);
        due.is("full again", x.insult(0, 1, 0, 1), -4);
    }

    private static void sorry() {
        due.says("Promise 5", "(0 .. as many as there are)");
        DuelSeconds x = new DuelSeconds();
        due.is("none of none, without a coast", x.sorry(0), 0);
        due.is("one of none, without a coast", x.sorry(1), -2);
        x = Due.with(Due.FOUR);
        due.is("none of none", x.sorry(0), 0);
        due.is("one of none", x.sorry(1), -2);
        for (int k = 0; k < 8; k++) {
            x.insult(0, 1, k, 1);
        }
        due.says("Promise 5", "OUTSIDE.");
        for (int k : new int[] {LEAST, -1, 9, MOST}) {
            due.is("sorry(" + k + ")", x.sorry(k), -2);
        }
        due.says("Promise 5", "how many are left");
        due.is("none of eight", x.sorry(0), 8);
        due.is("one of eight", x.sorry(1), 7);
        due.is("eight of seven", x.sorry(8), -2);
        due.is("seven of seven", x.sorry(7), 0);
        due.is("many(1)", x.many(1), 0);
    }

    /** Of 0 to 1 the seconds are 2 and 3, of 1 to 0 as well, of 2 to 3 0 and 1. */
    private static void sorryOfTheLast() {
        due.says("Promise 5", "The last k INSULTS");
        DuelSeconds x = Due.with(Due.FOUR);
        x.insult(2, 3, 9, 9);
        x.insult(0, 1, 0, 9);
        due.met(x, 0, 1, 2, 3, 1, 0, 3);
        due.is("the last told, though of the first day", x.sorry(1), 1);
        due.met(x, 0, 10, 0, 1, 3, 2, 1);
        due.is("meetings", x.many(3), 1);
    }

    private static void arrest() {
        due.says("Promise 6", "A PERSON is ARRESTED (true), or let go: 1; 0: it was so.");
        DuelSeconds x = Due.with(TWO);
        for (int p = 0; p < 2; p++) {
            due.is("let go, though free", x.arrest(p, false), 0);
            due.is("arrested", x.arrest(p, true), 1);
            due.is("is", x.ofPerson(p, 5), 1);
            due.is("arrested, though it is", x.arrest(p, true), 0);
            due.is("is", x.ofPerson(p, 5), 1);
            due.is("let go", x.arrest(p, false), 1);
            due.is("isn't", x.ofPerson(p, 5), 0);
            due.is("let go, though free", x.arrest(p, false), 0);
            x.arrest(p, true);
        }
        due.is("the first one still is", x.ofPerson(0, 5), 1);
        due.says("Promise 6", "UNKNOWN.");
        for (int p : new int[] {LEAST, -1, 2, MOST}) {
            due.is("arrest(" + p + ", true)", x.arrest(p, true), -1);
            due.is("arrest(" + p + ", false)", x.arrest(p, false), -1);
        }
        due.is("without a coast", new DuelSeconds().arrest(0, true), -1);
    }
}
