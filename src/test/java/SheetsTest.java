/** Promises 20 to 30: sheet, lose, put, cell, copy, tell, salute, as, trace, fault, many. */
public final class SheetsTest {
    private static final Due due = new Due("SheetsTest");
    private static final long LOST = Long.MIN_VALUE;
    private static final int LEAST = Integer.MIN_VALUE, MOST = Integer.MAX_VALUE;

    public static void main(String[] args) {
        sheet();
        lose();
        put();
        lanes();
        cell();
        copy();
        copyOntoItself();
        tell();
        salute();
        traceWraps();
        as();
        fault();
        many();
        due.end();
    }

    private static void sheet() {
        DuelSeconds x = new DuelSeconds();
        due.is("no sheet", x.sheet(-1, 9, -1), -1);
        due.is("no sheet", x.sheet(4, 0, 0), -1);
        due.is("lane", x.sheet(0, -1, -1), -2);
        due.is("lane", x.sheet(0, 3, 0), -2);
        due.is("n", x.sheet(0, 0, 51), -2);
        due.is("fault", x.fault(), 0);
        due.is("size", x.sheet(0, 0, -1), -14);
        due.is("fault", x.fault(), 4);
        due.is("size", x.sheet(0, 2, LEAST), -14);
        due.is("nothing yet", x.lose(0), 0);
        due.is("none", x.sheet(0, 0, 0), 1);
        due.is("fault", x.fault(), 0);
        due.is("no cell 0", x.put(0, 0, 1), -13);
        due.is("a row, though of none", x.lose(0), 1);
        due.is("fifty", x.sheet(3, 2, 50), 1);
        due.is("last cell", x.put(3, 49, 7), 1);
        due.is("0 at first", x.cell(3, 48, 2), 0);
        due.is("a faulty one", x.sheet(3, 1, -1), -14);
        due.is("changes nothing", x.cell(3, 49, 2), 7);
        due.is("a refused one", x.sheet(3, 1, 51), -2);
        due.is("changes nothing", x.cell(3, 49, 2), 7);
        due.is("a new row", x.sheet(3, 2, 50), 1);
        due.is("is 0 again", x.cell(3, 49, 2), 0);
        due.is("a shorter one", x.sheet(3, 1, 3), 1);
        due.is("has no cell 3", x.put(3, 3, 1), -13);
    }

    private static void lose() {
        DuelSeconds x = new DuelSeconds();
        due.is("no sheet", x.lose(-1), -1);
        due.is("no sheet", x.lose(4), -1);
        x.sheet(0, 0, -1);
        due.is("had nothing", x.lose(2), 0);
        due.is("names no fault", x.fault(), 4);
        x.sheet(2, 1, 5);
        x.put(2, 0, 9);
        due.is("had a row", x.lose(2), 1);
        due.is("had nothing", x.lose(2), 0);
        due.is("nothing is there", x.put(2, 0, 1), -11);
        x.sheet(2, 1, 5);
        due.is("0 at first", x.cell(2, 0, 1), 0);
    }

    private static void put() {
        DuelSeconds x = new DuelSeconds();
        due.is("no sheet", x.put(-1, 0, 0), -1);
        due.is("no sheet", x.put(4, 0, 0), -1);
        due.is("null", x.put(0, -1, 0), -11);
        due.is("fault", x.fault(), 1);
        due.is("no sheet", x.put(4, 0, 0), -1);
        due.is("fault of a refused one", x.fault(), 0);
        x.sheet(0, 2, 3);
        due.is("index", x.put(0, -1, 0), -13);
        due.is("fault", x.fault(), 3);
        due.is("index", x.put(0, 3, 0), -13);
        due.is("index", x.put(0, LEAST, 0), -13);
        due.is("index", x.put(0, MOST, 0), -13);
        due.is("taken", x.put(0, 2, LEAST), 1);
        due.is("fault", x.fault(), 0);
        due.is("cell", x.cell(0, 2, 2), LEAST);
    }

    private static void lanes() {
        DuelSeconds x = new DuelSeconds();
        for (int lane = 0; lane < 3; lane++) {
            x.sheet(lane, lane, 1);
        }
        int[] values = {0, 1, -1, 127, 128, -128, -129, 255, 256, 32767, 32768, -32768, -32769, 65535, 65536,
            MOST, LEAST};
        for (int v : values) {
            for (int lane = 0; lane < 3; lane++) {
                x.put(lane, 0, v);
            }
            due.is("byte of " + v, x.cell(0, 0, 0), ((v % 256) + 384) % 256 - 128);
            due.is("short of " + v, x.cell(1, 0, 1), ((v % 65536) + 98304) % 65536 - 32768);
            due.is("int of " + v, x.cell(2, 0, 2), v);
        }
    }

    private static void cell() {
        DuelSeconds x = new DuelSeconds();
        x.sheet(0, 0, -1);
        due.is("no sheet", x.cell(4, 0, 9), LOST);
        due.is("fault of a refused one", x.fault(), 0);
        x.sheet(0, 0, -1);
        due.is("lane", x.cell(0, 0, 3), LOST);
        due.is("fault of a refused one", x.fault(), 0);
        due.is("lane", x.cell(0, 0, -1), LOST);
        due.is("no sheet", x.cell(-1, 0, 0), LOST);
        due.is("null", x.cell(0, -1, 0), LOST);
        due.is("fault", x.fault(), 1);
        x.sheet(0, 1, 2);
        due.is("cast", x.cell(0, -1, 0), LOST);
        due.is("fault", x.fault(), 2);
        due.is("cast", x.cell(0, 0, 2), LOST);
        due.is("fault", x.fault(), 2);
        due.is("index", x.cell(0, -1, 1), LOST);
        due.is("fault", x.fault(), 3);
        due.is("index", x.cell(0, 2, 1), LOST);
        due.is("fault", x.fault(), 3);
        due.is("index", x.cell(0, MOST, 1), LOST);
        due.is("taken", x.cell(0, 1, 1), 0);
        due.is("fault", x.fault(), 0);
    }

    private static void copy() {
        DuelSeconds x = new DuelSeconds();
        due.is("no sheet", x.copy(-1, 0, 0, 0, 0), -1);
        due.is("no other", x.copy(0, 0, 4, 0, 0), -1);
        due.is("no other", x.copy(0, 0, -1, 0, 0), -1);
        due.is("fault of a refused one", x.fault(), 0);
        due.is("both nothing", x.copy(0, -1, 1, 0, 0), -11);
        x.sheet(0, 1, 4);
        due.is("the other nothing", x.copy(0, -1, 1, 0, 0), -11);
        due.is("the first nothing", x.copy(1, -1, 0, 0, 0), -11);
        due.is("fault", x.fault(), 1);
        x.sheet(1, 2, 6);
        due.is("cast", x.copy(0, -1, 1, 0, 0), -12);
        due.is("fault", x.fault(), 2);
        x.sheet(1, 1, 6);
        due.is("i", x.copy(0, -1, 1, 0, 1), -13);
        due.is("j", x.copy(0, 0, 1, -1, 1), -13);
        due.is("n", x.copy(0, 0, 1, 0, -1), -13);
        due.is("i and n", x.copy(0, 1, 1, 0, 4), -13);
        due.is("j and n", x.copy(0, 0, 1, 3, 4), -13);
        due.is("i behind", x.copy(0, 5, 1, 0, 0), -13);
        due.is("j behind", x.copy(0, 0, 1, 7, 0), -13);
        due.is("far n", x.copy(0, 1, 1, 0, MOST), -13);
        due.is("far i", x.copy(0, MOST, 1, 0, 1), -13);
        due.is("far j", x.copy(0, 0, 1, MOST, 1), -13);
        due.is("least n", x.copy(0, 0, 1, 0, LEAST), -13);
        due.is("fault", x.fault(), 3);
        due.is("none at the ends", x.copy(0, 4, 1, 6, 0), 0);
        due.is("fault", x.fault(), 0);
        for (int i = 0; i < 4; i++) {
            x.put(0, i, 10 + i);
        }
        due.is("three", x.copy(0, 1, 1, 2, 3), 3);
        row(x, 1, 1, 0, 0, 11, 12, 13, 0);
        row(x, 0, 1, 10, 11, 12, 13);
    }

    private static void copyOntoItself() {
        DuelSeconds x = new DuelSeconds();
        x.sheet(3, 0, 6);
        for (int i = 0; i < 6; i++) {
            x.put(3, i, i);
        }
        due.is("upwards", x.copy(3, 0, 3, 2, 4), 4);
        row(x, 3, 0, 0, 1, 0, 1, 2, 3);
        due.is("downwards", x.copy(3, 1, 3, 0, 5), 5);
        row(x, 3, 0, 1, 0, 1, 2, 3, 3);
    }

    private static void row(DuelSeconds x, int k, int lane, int... want) {
        for (int i = 0; i < want.length; i++) {
            due.is("cell(" + k + ", " + i + ")", x.cell(k, i, lane), want[i]);
        }
    }

    private static void tell() {
        DuelSeconds x = Due.with("d3;g512;h402;o301");
        due.is("no person", x.tell(-1), -1);
        due.is("no person", x.tell(3), -1);
        due.is("trace", x.trace(), 0);
        due.is("gentleman", x.tell(0), 5);
        due.is("trace", x.trace(), 1);
        due.is("hothead", x.tell(1), 104);
        due.is("trace", x.trace(), (1 * 31 + 2) * 31 + 1);
        DuelSeconds y = Due.with("d3;g512;h402;o301");
        due.is("officer", y.tell(2), 106);
        due.is("trace", y.trace(), ((3 * 31 + 2) * 31 + 1) * 31 + 1);
    }

    private static void salute() {
        DuelSeconds x = Due.with("d4;g512;h402;o301;g902");
        due.is("no person", x.salute(-1), -1);
        due.is("no person", x.salute(4), -1);
        due.is("trace", x.trace(), 0);
        due.is("hothead", x.salute(1), 1);
        due.is("trace", x.trace(), 4);
        due.is("officer", x.salute(2), 80);
        due.is("trace", x.trace(), 4 * 31 + 5);
        due.is("gentleman", x.salute(3), 3);
        due.is("trace", x.trace(), (4 * 31 + 5) * 31 + 4);
        due.is("gentleman", x.salute(0), 0);
    }

    private static void traceWraps() {
        DuelSeconds x = Due.with("d2;g511;o100");
        long trace = 0;
        for (int k = 0; k < 40; k++) {
            x.salute(k % 2);
            trace = (trace * 31 + (k % 2 == 0 ? 4 : 5)) & 0xffffffffL;
        }
        due.is("trace", x.trace(), trace >= 1L << 31 ? trace - (1L << 32) : trace);
    }

    private static void as() {
        DuelSeconds x = Due.with("d3;g512;h402;o301");
        due.is("no person", x.as(-1, 9), -1);
        due.is("no person", x.as(3, 0), -1);
        for (int p = 0; p < 3; p++) {
            due.is("kind -1", x.as(p, -1), -2);
            due.is("kind 3", x.as(p, 3), -2);
            for (int kind = 0; kind < 3; kind++) {
                due.is("as(" + p + ", " + kind + ")", x.as(p, kind), kind <= p ? 1 : -12);
                due.is("fault", x.fault(), kind <= p ? 0 : 2);
            }
        }
        x.as(0, 2);
        x.as(0, 3);
        due.is("fault of a refused one", x.fault(), 0);
    }

    /** Calls that name no fault leave it. */
    private static void fault() {
        DuelSeconds x = Due.with("d3;g512;h402;o301");
        x.put(1, 0, 0);
        due.is("fault", x.fault(), 1);
        due.is("fault again", x.fault(), 1);
        x.ofPerson(9, 0);
        x.insult(0, 1, 0, 9);
        x.insult(0, 1, 0, 10);
        x.sorry(1);
        x.arrest(0, true);
        x.meetings(99);
        x.met(0, 0);
        x.free(0, 0);
        x.second(0, 1, 0);
        x.worth(0);
        x.arrests(0);
        x.provoked(0, 1, 0);
        x.odds(0, 0, 0);
        x.reading(0, 0, true);
        x.back(1);
        x.never();
        x.caught();
        x.lose(0);
        x.lose(9);
        x.tell(0);
        x.salute(0);
        x.trace();
        x.many(9);
        due.is("they name none", x.fault(), 1);
    }

    private static void many() {
        DuelSeconds x = Due.with("d4;g512;g423;g330;g201");
        x.insult(0, 1, 0, 9);
        x.insult(0, 1, 29, 9);
        x.insult(0, 1, 3, 1);
        x.reading(0, 0, true);
        due.is("persons", x.many(0), 4);
        due.is("insults", x.many(1), 3);
        due.is("readings", x.many(2), 1);
        due.is("meetings", x.many(3), 2);
        due.is("many(-1)", x.many(-1), -2);
        due.is("many(4)", x.many(4), -2);
        due.is("many(4) without a coast", new DuelSeconds().many(4), -2);
        due.is("UNKNOWN", DuelSeconds.UNKNOWN, -1);
        due.is("OUTSIDE", DuelSeconds.OUTSIDE, -2);
        due.is("STATE", DuelSeconds.STATE, -3);
        due.is("FULL", DuelSeconds.FULL, -4);
        due.is("NONE", DuelSeconds.NONE, -9);
        due.is("LOST", DuelSeconds.LOST, LOST);
    }
}
