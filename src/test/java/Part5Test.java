/**
 * Sentence by sentence, what part 5, the faults and the promises 20 to 30 say of edges. Answers are worked out
 * from the document's words.
 */
public final class Part5Test {
    private static final Due due = new Due("Part5Test");
    private static final int LEAST = Due.LEAST, MOST = Due.MOST;
    private static final long LOST = Due.LOST;
    private static final String THREE = "d3;g512;h402;o301";

    public static void main(String[] args) {
        sheetsAtFirst();
        sheetLengths();
        sheetLanes();
        sheetRefusals();
        newRow();
        lose();
        cutToLanes();
        putAnswers();
        putFaults();
        cellAnswers();
        cellFaults();
        copyEdges();
        copyAsTheyWere();
        copyFaults();
        traceAtFirst();
        traceOfBodies();
        traceWraps();
        traceOfRefused();
        tell();
        salute();
        as();
        faultOfLatest();
        faultOfRefused();
        many();
        manyOfMeetings();
        due.end();
    }

    private static void faulty(DuelSeconds x, String what, long answer, int fault) {
        due.is(what, answer, -10 - fault);
        due.is("fault(): " + what, x.fault(), fault);
    }

    private static void lost(DuelSeconds x, String what, long answer, int fault) {
        due.is(what, answer, LOST);
        due.is("fault(): " + what, x.fault(), fault);
    }

    // ---- sheets

    private static void sheetsAtFirst() {
        due.says("Part 5", "SHEETS 0 .. 3 have nothing (at first)");
        DuelSeconds x = new DuelSeconds();
        for (int k = 0; k < 4; k++) {
            faulty(x, "put", x.put(k, 0, 0), 1);
            lost(x, "cell", x.cell(k, 0, 0), 1);
            faulty(x, "coast", x.coast(k, 0, 0, 0), 1);
            faulty(x, "row", x.row(k, 0, 0, 0), 1);
            faulty(x, "copy", x.copy(k, 0, k, 0, 0), 1);
            due.is("lose", x.lose(k), 0);
        }
        for (int k : new int[] {LEAST, -1, 4, MOST}) {
            due.is("no sheet " + k, x.lose(k), -1);
        }
    }

    private static void sheetLengths() {
        due.says("Part 5", "or a row of 0 .. 50 numbers (0 at first)");
        for (int k = 0; k < 4; k++) {
            DuelSeconds x = new DuelSeconds();
            due.is("of none", x.sheet(k, 0, 0), 1);
            faulty(x, "no cell 0", x.put(k, 0, 0), 3);
            lost(x, "no cell 0", x.cell(k, 0, 0), 3);
            due.is("of one", x.sheet(k, 0, 1), 1);
            due.is("its cell", x.cell(k, 0, 0), 0);
            faulty(x, "no cell 1", x.put(k, 1, 0), 3);
            due.is("of fifty", x.sheet(k, 0, 50), 1);
            for (int i = 0; i < 50; i++) {
                due.is("cell " + i, x.cell(k, i, 0), 0);
            }
            due.is("the last one", x.put(k, 49, 7), 1);
            due.is("the last one", x.cell(k, 49, 0), 7);
            lost(x, "no cell 50", x.cell(k, 50, 0), 3);
            faulty(x, "no cell 50", x.put(k, 50, 0), 3);
        }
    }

    private static void sheetLanes() {
        due.says("Part 5", "of a LANE: 0 bytes, 1 shorts, 2 ints");
        for (int lane = 0; lane < 3; lane++) {
            DuelSeconds x = new DuelSeconds();
            due.is("sheet", x.sheet(0, lane, 1), 1);
            x.put(0, 0, MOST);
            due.is("the most int, cut", x.cell(0, 0, lane), lane == 2 ? MOST : -1);
            x.put(0, 0, LEAST);
            due.is("the least int, cut", x.cell(0, 0, lane), lane == 2 ? LEAST : 0);
        }
    }

    private static void sheetRefusals() {
        due.says("Promise 20", "A SHEET gets a new row: 1. UNKNOWN; OUTSIDE: lane, n above 50; SIZE.");
        DuelSeconds x = new DuelSeconds();
        for (int k : new int[] {LEAST, -1, 4, MOST}) {
            due.is("sheet " + k, x.sheet(k, 0, 0), -1);
            due.is("sheet " + k + ", lane and n", x.sheet(k, 3, 51), -1);
            due.is("sheet " + k + " and SIZE", x.sheet(k, 0, -1), -1);
        }
        for (int lane : new int[] {LEAST, -1, 3, MOST}) {
            due.is("lane " + lane, x.sheet(0, lane, 0), -2);
            due.is("lane " + lane + " and SIZE", x.sheet(0, lane, -1), -2);
        }
        due.is("n 51", x.sheet(0, 0, 51), -2);
        due.is("the most n", x.sheet(0, 0, MOST), -2);
        due.is("fault()", x.fault(), 0);
        due.is("n 50", x.sheet(0, 0, 50), 1);
        due.says("Refusals", "4 SIZE (a length below 0)");
        faulty(x, "n -1", x.sheet(1, 0, -1), 4);
        faulty(x, "the least n", x.sheet(1, 2, LEAST), 4);
        due.is("nothing is there", x.lose(1), 0);
        due.is("n 0", x.sheet(1, 2, 0), 1);
        due.is("fault()", x.fault(), 0);
    }

    private static void newRow() {
        due.says("Promise 20", "A SHEET gets a new row");
        DuelSeconds x = new DuelSeconds();
        x.sheet(0, 2, 3);
        x.sheet(1, 2, 3);
        x.put(0, 0, 5);
        x.put(0, 2, 6);
        x.put(1, 2, 7);
        faulty(x, "SIZE", x.sheet(0, 1, -1), 4);
        due.is("OUTSIDE", x.sheet(0, 1, 51), -2);
        due.is("neither changes it", x.cell(0, 2, 2), 6);
        due.is("one as the old one", x.sheet(0, 2, 3), 1);
        due.is("cell 0", x.cell(0, 0, 2), 0);
        due.is("cell 2", x.cell(0, 2, 2), 0);
        due.is("another sheet stays", x.cell(1, 2, 2), 7);
        due.is("a shorter one of another lane", x.sheet(0, 1, 2), 1);
        lost(x, "as the old lane", x.cell(0, 0, 2), 2);
        lost(x, "the old cell", x.cell(0, 2, 1), 3);
        due.is("a longer one", x.sheet(0, 1, 4), 1);
        due.is("the old cell", x.cell(0, 2, 1), 0);
    }

    private static void lose() {
        due.says("Promise 21", "A SHEET has nothing: 1; 0: it had nothing. UNKNOWN.");
        DuelSeconds x = new DuelSeconds();
        for (int k = 0; k < 4; k++) {
            due.is("it had nothing", x.lose(k), 0);
            x.sheet(k, 0, k);
        }
        for (int k = 0; k < 4; k++) {
            due.is("a row of " + k, x.lose(k), 1);
            due.is("it had nothing", x.lose(k), 0);
            faulty(x, "nothing is there", x.put(k, 0, 0), 1);
            due.is("the next sheet stays", x.cell((k + 1) % 4, 0, 0), k == 3 ? LOST : 0);
        }
        for (int k : new int[] {LEAST, -1, 4, MOST}) {
            due.is("lose(" + k + ")", x.lose(k), -1);
        }
    }

    private static void cutToLanes() {
        due.says("Part 5", "what comes to a cell of it is cut to its LANE (with its sign).");
        DuelSeconds x = new DuelSeconds();
        for (int lane = 0; lane < 3; lane++) {
            x.sheet(lane, lane, 1);
        }
        put(x, 127, 127, 127);
        put(x, 128, -128, 128);
        put(x, -128, -128, -128);
        put(x, -129, 127, -129);
        put(x, 255, -1, 255);
        put(x, 256, 0, 256);
        put(x, 32767, -1, 32767);
        put(x, 32768, 0, -32768);
        put(x, -32768, 0, -32768);
        put(x, -32769, -1, 32767);
        put(x, 65535, -1, -1);
        put(x, 65536, 0, 0);
        put(x, MOST, -1, -1);
        put(x, LEAST, 0, 0);
        put(x, -1, -1, -1);
        put(x, 0x12345678, 0x78, 0x5678);
        put(x, 0x1234f6f8, -8, -2312);
    }

    private static void put(DuelSeconds x, int v, int asByte, int asShort) {
        for (int lane = 0; lane < 3; lane++) {
            x.put(lane, 0, v);
        }
        due.is(v + " as a byte", x.cell(0, 0, 0), asByte);
        due.is(v + " as a short", x.cell(1, 0, 1), asShort);
        due.is(v + " as an int", x.cell(2, 0, 2), v);
    }

    private static void putAnswers() {
        due.says("Promise 22", "Cell i of a SHEET becomes v: 1.");
        DuelSeconds x = new DuelSeconds();
        x.sheet(3, 2, 3);
        due.is("put(3, 1, -9)", x.put(3, 1, -9), 1);
        due.is("cell 0", x.cell(3, 0, 2), 0);
        due.is("cell 1", x.cell(3, 1, 2), -9);
        due.is("cell 2", x.cell(3, 2, 2), 0);
    }

    private static void putFaults() {
        due.says("Promise 22", "UNKNOWN; NULL; INDEX.");
        DuelSeconds x = new DuelSeconds();
        for (int k : new int[] {LEAST, -1, 4, MOST}) {
            due.is("put(" + k + ", -1, 0)", x.put(k, -1, 0), -1);
        }
        faulty(x, "NULL ahead of INDEX", x.put(0, -1, 0), 1);
        x.sheet(0, 2, 3);
        for (int i : new int[] {LEAST, -1, 3, MOST}) {
            faulty(x, "put(0, " + i + ", 7)", x.put(0, i, 7), 3);
        }
        for (int i = 0; i < 3; i++) {
            due.is("cell " + i, x.cell(0, i, 2), 0);
            due.is("put(0, " + i + ", 7)", x.put(0, i, 7), 1);
        }
    }

    private static void cellAnswers() {
        due.says("Promise 23", "Cell i of what a SHEET has, taken as a row of a LANE.");
        for (int lane = 0; lane < 3; lane++) {
            DuelSeconds x = new DuelSeconds();
            x.sheet(2, lane, 2);
            x.put(2, 0, -5);
            for (int other = 0; other < 3; other++) {
                lost(x, "cell 2", x.cell(2, 2, other), other == lane ? 3 : 2);
                due.is("cell(2, 0, " + other + ")", x.cell(2, 0, other), other == lane ? -5 : LOST);
                due.is("cell(2, 1, " + other + ")", x.cell(2, 1, other), other == lane ? 0 : LOST);
                due.is("fault()", x.fault(), other == lane ? 0 : 2);
            }
        }
    }

    private static void cellFaults() {
        due.says("Promise 23", "LOST: UNKNOWN, OUTSIDE: lane; FAULTS CAST (nothing is no CAST), NULL, INDEX.");
        DuelSeconds x = new DuelSeconds();
        for (int k : new int[] {LEAST, -1, 4, MOST}) {
            lost(x, "sheet " + k, x.cell(k, -1, 3), 0);
        }
        for (int lane : new int[] {LEAST, -1, 3, MOST}) {
            lost(x, "lane " + lane, x.cell(0, -1, lane), 0);
        }
        for (int lane = 0; lane < 3; lane++) {
            lost(x, "nothing as lane " + lane, x.cell(0, -1, lane), 1);
        }
        x.sheet(0, 1, 3);
        lost(x, "a refused one", x.cell(0, 3, 3), 0);
        lost(x, "CAST ahead of INDEX", x.cell(0, -1, 0), 2);
        lost(x, "CAST ahead of INDEX", x.cell(0, 3, 2), 2);
        for (int i : new int[] {LEAST, -1, 3, MOST}) {
            lost(x, "cell " + i, x.cell(0, i, 1), 3);
        }
        due.is("cell 0", x.cell(0, 0, 1), 0);
        due.is("cell 2", x.cell(0, 2, 1), 0);
        due.is("fault()", x.fault(), 0);
        x.sheet(0, 1, 0);
        lost(x, "cell 0 of none", x.cell(0, 0, 1), 3);
    }

    // ---- copy

    /** On sheet 0 four numbers, 11 to 14, on sheet 1 six 0. */
    private static DuelSeconds twoSheets() {
        DuelSeconds x = new DuelSeconds();
        x.sheet(0, 1, 4);
        x.sheet(1, 1, 6);
        for (int i = 0; i < 4; i++) {
            x.put(0, i, 11 + i);
        }
        return x;
    }

    private static void cells(DuelSeconds x, int k, int... want) {
        for (int i = 0; i < want.length; i++) {
            due.is("cell(" + k + ", " + i + ", 1)", x.cell(k, i, 1), want[i]);
        }
    }

    private static void copyEdges() {
        due.says("Promise 24", "n cells of a SHEET from i on go to another one (perhaps the same) from j on, as they "
            + "were: n.");
        DuelSeconds x = twoSheets();
        due.is("none", x.copy(0, 0, 1, 0, 0), 0);
        due.is("none, at the ends", x.copy(0, 4, 1, 6, 0), 0);
        due.is("none, at its own end", x.copy(0, 4, 0, 4, 0), 0);
        cells(x, 1, 0, 0, 0, 0, 0, 0);
        due.is("all, to the end", x.copy(0, 0, 1, 2, 4), 4);
        cells(x, 1, 0, 0, 11, 12, 13, 14);
        due.is("the last one, to the first place", x.copy(0, 3, 1, 0, 1), 1);
        cells(x, 1, 14, 0, 11, 12, 13, 14);
        cells(x, 0, 11, 12, 13, 14);
        due.is("back", x.copy(1, 2, 0, 1, 3), 3);
        cells(x, 0, 11, 11, 12, 13);
        x.sheet(2, 1, 50);
        x.sheet(3, 1, 50);
        x.put(2, 49, -3);
        due.is("fifty", x.copy(2, 0, 3, 0, 50), 50);
        due.is("the last of fifty", x.cell(3, 49, 1), -3);
    }

    private static void copyAsTheyWere() {
        due.says("Promise 24", "(perhaps the same) from j on, as they were");
        DuelSeconds x = twoSheets();
        due.is("upwards", x.copy(0, 0, 0, 1, 3), 3);
        cells(x, 0, 11, 11, 12, 13);
        x = twoSheets();
        due.is("downwards", x.copy(0, 1, 0, 0, 3), 3);
        cells(x, 0, 12, 13, 14, 14);
        x = twoSheets();
        due.is("to the same place", x.copy(0, 0, 0, 0, 4), 4);
        cells(x, 0, 11, 12, 13, 14);
    }

    private static void copyFaults() {
        due.says("Promise 24", "UNKNOWN; FAULTS NULL (the first, the other), CAST (unlike LANES)");
        DuelSeconds x = twoSheets();
        for (int k : new int[] {LEAST, -1, 4, MOST}) {
            due.is("from " + k, x.copy(k, -1, 0, 0, 0), -1);
            due.is("to " + k, x.copy(0, -1, k, 0, 0), -1);
            due.is("UNKNOWN ahead of NULL", x.copy(k, 0, 2, 0, 0), -1);
            due.is("UNKNOWN ahead of NULL", x.copy(2, 0, k, 0, 0), -1);
        }
        faulty(x, "the first", x.copy(2, -1, 0, 0, 0), 1);
        faulty(x, "the other", x.copy(0, -1, 2, 0, 0), 1);
        faulty(x, "both", x.copy(2, 0, 3, 0, 0), 1);
        x.sheet(2, 2, 6);
        faulty(x, "CAST", x.copy(0, 0, 2, 0, 1), 2);
        faulty(x, "CAST", x.copy(2, 0, 0, 0, 1), 2);
        faulty(x, "CAST, though of none", x.copy(2, 0, 0, 0, 0), 2);
        faulty(x, "CAST ahead of INDEX", x.copy(0, -1, 2, -1, -1), 2);
        due.says("Promise 24", "INDEX: i, j, n below 0 or beyond.");
        faulty(x, "i -1", x.copy(0, -1, 1, 0, 1), 3);
        faulty(x, "j -1", x.copy(0, 0, 1, -1, 1), 3);
        faulty(x, "n -1", x.copy(0, 0, 1, 0, -1), 3);
        faulty(x, "n -1 from 1 to 1", x.copy(0, 1, 1, 1, -1), 3);
        faulty(x, "five of four", x.copy(0, 0, 1, 0, 5), 3);
        faulty(x, "four from 1 on", x.copy(0, 1, 1, 0, 4), 3);
        faulty(x, "four to 3", x.copy(0, 0, 1, 3, 4), 3);
        faulty(x, "one from 4 on", x.copy(0, 4, 1, 0, 1), 3);
        faulty(x, "one to 6", x.copy(0, 0, 1, 6, 1), 3);
        faulty(x, "the most n", x.copy(0, 1, 1, 1, MOST), 3);
        faulty(x, "the most i", x.copy(0, MOST, 1, 0, 1), 3);
        faulty(x, "the most j", x.copy(0, 0, 1, MOST, 1), 3);
        faulty(x, "the least of all", x.copy(0, LEAST, 1, LEAST, LEAST), 3);
        due.says("Refusals", "3 INDEX (of cells from i on also where i is not 0 .. how many there are, if none of them "
            + "is taken, too)");
        faulty(x, "none from -1 on", x.copy(0, -1, 1, 0, 0), 3);
        faulty(x, "none from 5 on", x.copy(0, 5, 1, 0, 0), 3);
        faulty(x, "none to -1", x.copy(0, 0, 1, -1, 0), 3);
        faulty(x, "none to 7", x.copy(0, 0, 1, 7, 0), 3);
        cells(x, 1, 0, 0, 0, 0, 0, 0);
        cells(x, 0, 11, 12, 13, 14);
    }

    // ---- trace, tell, salute, as

    private static void traceAtFirst() {
        due.says("Part 5", "(an int that wraps, 0 at first, becomes 31 times it and the number) as they begin");
        DuelSeconds x = new DuelSeconds();
        due.is("trace()", x.trace(), 0);
        Due.coast(x, THREE);
        due.is("trace()", x.trace(), 0);
        x.salute(0);
        due.is("4", x.trace(), 4);
        x.salute(2);
        due.is("31 times 4 and 5", x.trace(), 129);
        x.tell(0);
        due.is("31 times 129 and 1", x.trace(), 4000);
        due.says("Promise 28", "TRACE.");
        due.is("trace() leaves it", x.trace(), 4000);
    }

    private static void traceOfBodies() {
        due.says("Part 5", "HOTHEAD (2): what GENTLEMAN's gives, and 100.");
        DuelSeconds x = Due.with(THREE);
        due.is("tell(1)", x.tell(1), 104);
        due.is("2, then 1", x.trace(), 2 * 31 + 1);
        due.says("Part 5", "OFFICER (3): what HOTHEAD's gives, and what GENTLEMAN's gives (HOTHEAD's left out).");
        DuelSeconds y = Due.with(THREE);
        due.is("tell(2)", y.tell(2), 3 + 100 + 3);
        due.is("3, 2, 1, 1", y.trace(), 3 * 29791 + 2 * 961 + 31 + 1);
    }

    private static void traceWraps() {
        due.says("Part 5", "an int that wraps");
        DuelSeconds x = Due.with(THREE);
        int[] want = {4, 128, 3972, 123136, 3817220, 118333824, -626618748};
        for (int k = 0; k < want.length; k++) {
            x.salute(0);
            due.is("trace() behind " + (k + 1), x.trace(), want[k]);
        }
        // 31 times -626618748 is -19425181188, and 5 times 4294967296 is 21474836480; and 4.
        x.salute(0);
        due.is("trace() behind 8", x.trace(), 2049655296);
    }

    private static void traceOfRefused() {
        due.says("Refusals", "they change nothing");
        DuelSeconds x = Due.with(THREE);
        x.tell(0);
        x.tell(-1);
        x.tell(3);
        x.salute(-1);
        x.salute(3);
        due.is("trace()", x.trace(), 1);
    }

    private static void tell() {
        due.says("Part 5", "GENTLEMAN (1): HONOUR.");
        DuelSeconds x = Due.with("d6;g112;h102;o101;g912;h912;o912");
        int[] want = {1, 101, 102, 9, 109, 118};
        for (int p = 0; p < 6; p++) {
            due.is("tell(" + p + ")", x.tell(p), want[p]);
        }
        due.says("Promise 25", "TELLING of a PERSON. UNKNOWN.");
        for (int p : new int[] {LEAST, -1, 6, MOST}) {
            due.is("tell(" + p + ")", x.tell(p), -1);
        }
        due.is("without a coast", new DuelSeconds().tell(0), -1);
    }

    private static void salute() {
        due.says("Part 5", "SALUTED by a lent body (4): the own number of the one that is told, its place in its list; "
            + "OFFICERS have their own (5): 80.");
        DuelSeconds x = Due.with("d6;g112;h102;o101;g912;h912;o912");
        int[] want = {0, 1, 80, 3, 4, 80};
        int trace = 0;
        for (int p = 0; p < 6; p++) {
            due.is("salute(" + p + ")", x.salute(p), want[p]);
            trace = 31 * trace + (want[p] == 80 ? 5 : 4);
            due.is("trace()", x.trace(), trace);
        }
        due.says("Promise 26", "How it is SALUTED. UNKNOWN.");
        for (int p : new int[] {LEAST, -1, 6, MOST}) {
            due.is("salute(" + p + ")", x.salute(p), -1);
        }
        due.is("without a coast", new DuelSeconds().salute(0), -1);
    }

    private static void as() {
        due.says("Promise 27", "CAST: it is none (each is a GENTLEMAN, too; an OFFICER is a HOTHEAD).");
        DuelSeconds x = Due.with(THREE);
        for (int p = 0; p < 3; p++) {
            for (int kind = 0; kind < 3; kind++) {
                due.is("as(" + p + ", " + kind + ")", x.as(p, kind), kind > p ? -12 : 1);
                due.is("fault()", x.fault(), kind > p ? 2 : 0);
            }
        }
        due.says("Promise 27", "A PERSON, taken as one of a kind: 1. UNKNOWN; OUTSIDE; CAST");
        for (int p : new int[] {LEAST, -1, 3, MOST}) {
            due.is("as(" + p + ", 0)", x.as(p, 0), -1);
            due.is("as(" + p + ", 3)", x.as(p, 3), -1);
        }
        for (int kind : new int[] {LEAST, -1, 3, MOST}) {
            due.is("as(0, " + kind + ")", x.as(0, kind), -2);
            due.is("as(2, " + kind + ")", x.as(2, kind), -2);
        }
        due.is("fault()", x.fault(), 0);
        due.is("without a coast", new DuelSeconds().as(0, 0), -1);
    }

    // ---- fault, many

    private static void faultOfLatest() {
        due.says("Promise 29", "The FAULT of the latest call that names one: 0: it came to none, or was refused (0 ahead "
            + "of any).");
        DuelSeconds x = new DuelSeconds();
        due.is("ahead of any", x.fault(), 0);
        x.put(0, 0, 0);
        due.is("of put", x.fault(), 1);
        due.is("asked again", x.fault(), 1);
        x.meetings(0);
        x.lose(0);
        x.lose(4);
        x.many(9);
        x.trace();
        due.is("behind calls that name none", x.fault(), 1);
        x.sheet(0, 0, 0);
        due.is("sheet came to none", x.fault(), 0);
        x.put(0, 0, 0);
        due.is("of put", x.fault(), 3);
        x.sheet(0, 0, -1);
        due.is("of sheet", x.fault(), 4);
        x.coast(0, 1, 0, 0);
        due.is("of coast", x.fault(), 2);
        x.coast(0, 0, 0, 0);
        due.is("a text's fault is none of the machine's", x.fault(), 0);
        x.row(0, 0, 1, 0);
        due.is("of row", x.fault(), 3);
        x.copy(0, 0, 1, 0, 0);
        due.is("of copy", x.fault(), 1);
        x.cell(0, 0, 2);
        due.is("of cell", x.fault(), 2);
        x.copy(0, 0, 0, 0, 0);
        due.is("copy came to none", x.fault(), 0);
        Due.coast(x, THREE);
        x.as(0, 2);
        due.is("of as", x.fault(), 2);
        x.as(0, 0);
        due.is("as came to none", x.fault(), 0);
    }

    /** Each of them behind a fault of another one. */
    private static void faultOfRefused() {
        due.says("Promise 29", "0: it came to none, or was refused");
        DuelSeconds x = Due.with(THREE);
        for (int which = 0; which < 9; which++) {
            x.put(3, 0, 0);
            due.is("a fault ahead", x.fault(), 1);
            due.is("refused", refused(x, which), which == 7 ? LOST : which > 4 ? -1 : -2);
            due.is("fault(): " + which, x.fault(), 0);
        }
    }

    private static long refused(DuelSeconds x, int which) {
        switch (which) {
            case 0: return x.coast(0, 3, 0, 0);
            case 1: return x.row(0, 3, 0, 0);
            case 2: return x.sheet(0, 0, 51);
            case 3: return x.as(0, 3);
            case 4: return x.sheet(0, 3, 0);
            case 5: return x.put(4, 0, 0);
            case 6: return x.copy(0, 0, 4, 0, 0);
            case 7: return x.cell(0, 0, 3);
            default: return x.as(3, 0);
        }
    }

    private static void many() {
        due.says("Promise 30", "How many: 0 PERSONS, 1 INSULTS, 2 READINGS, 3 MEETINGS at all (0 all without a COAST). "
            + "OUTSIDE.");
        DuelSeconds x = new DuelSeconds();
        for (int turn = 0; turn < 2; turn++) {
            for (int what = 0; what < 4; what++) {
                due.is("many(" + what + ")", x.many(what), turn == 1 && what == 0 ? 6 : 0);
            }
            for (int what : new int[] {LEAST, -1, 4, MOST}) {
                due.is("many(" + what + ")", x.many(what), -2);
            }
            Due.coast(x, "d6;g533;g522;g555;g544;g511;g500");
        }
        for (int k = 0; k < 8; k++) {
            x.insult(0, 1, k, 5);
            x.reading(0, k, true);
        }
        due.is("insults", x.many(1), 8);
        due.is("readings", x.many(2), 8);
        due.is("meetings", x.many(3), 8);
    }

    private static void manyOfMeetings() {
        due.says("Promise 30", "3 MEETINGS at all");
        DuelSeconds x = Due.with("d5;o714;h720;h700;h810;h823");
        x.insult(0, 1, 29, 9);
        due.is("up to dawn 59, see Part2Test", x.many(3), 30);
        x.arrest(3, true);
        x.arrest(4, true);
        due.is("many(3)", x.many(3), 0);
    }
}
