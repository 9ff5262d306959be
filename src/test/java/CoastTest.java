/** Promises 1 to 6: a new object, coast, ofPerson, insult, sorry, arrest. */
public final class CoastTest {
    private static final Due due = new Due("CoastTest");
    private static final String SIX = "d6;g512;h934;o205;h150;g853;o621";

    public static void main(String[] args) {
        newObject();
        texts();
        textFaults();
        everyPlaceOfAText();
        coastRefusals();
        coastOfAPart();
        coastMakesAnew();
        ofPerson();
        touchiness();
        insult();
        sorry();
        arrest();
        due.end();
    }

    private static void newObject() {
        DuelSeconds x = new DuelSeconds();
        for (int what = 0; what < 4; what++) {
            due.is("new many(" + what + ")", x.many(what), 0);
        }
        due.is("new trace", x.trace(), 0);
        due.is("new fault", x.fault(), 0);
        due.is("new meetings", x.meetings(0), -3);
        for (int k = 0; k < 4; k++) {
            due.is("new lose(" + k + ")", x.lose(k), 0);
            due.is("new put(" + k + ")", x.put(k, 0, 1), -11);
        }
        due.is("new fault behind put", x.fault(), 1);
    }

    private static void texts() {
        DuelSeconds x = new DuelSeconds();
        due.is("two", Due.coast(x, "d2;g111;h100"), 2);
        due.is("three", Due.coast(x, "d3;g112;h102;o901", 1, 1), 3);
        due.is("six", Due.coast(x, SIX, 3, 2), 6);
        due.is("many(0)", x.many(0), 6);
        due.is("a friend twice", Due.coast(x, "d2;o511;o500"), 2);
    }

    private static void textFaults() {
        text("", 0);
        text("e2;g111;h100", 0);
        text("2;g111;h100", 0);
        text("D2;g111;h100", 0);
        text("d", 1);
        text("d1;g100", 1);
        text("d7;g111;h100", 1);
        text("d0", 1);
        text("d;", 1);
        text("d2", 2);
        text("d2:g111;h100", 2);
        text("d2;", 3);
        text("d2;x111;h100", 3);
        text("d2;G111;h100", 3);
        text("d2;g", 4);
        text("d2;g011;h100", 4);
        text("d2;g:11;h100", 4);
        text("d2;g1", 5);
        text("d2;g101;h100", 5);
        text("d2;g121;h100", 5);
        text("d2;g1/1;h100", 5);
        text("d2;g110;h100", 6);
        text("d2;g112;h100", 6);
        text("d2;g111", 7);
        text("d2;g111,h100", 7);
        text("d2;g111;h110", 10);
        text("d2;g111;h101", 11);
        text("d2;g111;h10", 11);
        text("d2;g111;h100;", 12);
        text("d2;g111;h100;g101", 12);
        text("d3;g111;h100", 12);
        text("d3;g112;h102;o932", 15);
        text("d3;g112;h102;o902", 16);
        text("d6;g512;h934;o205;h150;g843;o621", 25);
        text("d6;g512;h934;o205;h150;g853;o625", 31);
        text("d6;g512;h934;o205;h150;g853;o626", 31);
        text("d6;g512;h934;o205;h150;g853;o62", 31);
        text(SIX + "1", 32);
    }

    private static void text(String text, int fault) {
        DuelSeconds x = Due.with("d2;g111;h100");
        due.is("text " + text, Due.coast(x, text), -100 - fault);
        due.is("many(0) behind text " + text, x.many(0), 2);
        due.is("fault() behind text " + text, x.fault(), 0);
    }

    /** Each code changed to each other one: the fault is there, unless a text goes on. */
    private static void everyPlaceOfAText() {
        String text = "d3;g112;h120;o901";
        for (int place = 0; place < text.length(); place++) {
            DuelSeconds x = new DuelSeconds();
            Due.coast(x, text, 2, 2);
            for (int code = 40; code < 120; code++) {
                String changed = text.substring(0, place) + (char) code + text.substring(place + 1);
                x = new DuelSeconds();
                due.is(changed, Due.coast(x, changed), wanted(changed));
            }
        }
        DuelSeconds x = new DuelSeconds();
        Due.coast(x, text, 0, 2);
        x.put(0, 0, 'd' + 256);
        due.is("an int that is d but for its upper bits", x.coast(0, 2, 0, text.length()), -100);
    }

    /** By a look at all texts of three persons: the first place at which none of them goes on. */
    private static int wanted(String text) {
        String[] allowed = {"d", "23456", ";", "gho", "123456789", "12", "12", ";", "gho", "123456789", "02",
            "02", ";", "gho", "123456789", "01", "01"};
        for (int place = 0; place < text.length(); place++) {
            if (allowed[place].indexOf(text.charAt(place)) < 0) {
                // With another count the friends are other ones.
                if (text.charAt(1) != '3') {
                    break;
                }
                return -100 - place;
            }
        }
        switch (text.charAt(1)) {
            case '3':
                return 3;
            case '2':
                return -106;
            case '4':
            case '5':
            case '6':
                return -117;
            default:
                return text.charAt(0) == 'd' ? -101 : -100;
        }
    }

    private static void coastRefusals() {
        DuelSeconds x = new DuelSeconds();
        due.is("no sheet -1", x.coast(-1, 9, 0, 0), -1);
        due.is("no sheet 4", x.coast(4, 0, 0, 0), -1);
        due.is("lane -1", x.coast(0, -1, 0, 0), -2);
        due.is("lane 3", x.coast(0, 3, 0, 0), -2);
        due.is("nothing", x.coast(0, 0, -1, -1), -11);
        due.is("fault", x.fault(), 1);
        Due.coast(x, "d2;g111;h100");
        due.is("other lane", x.coast(0, 1, -1, -1), -12);
        due.is("fault", x.fault(), 2);
        due.is("size", x.coast(0, 0, -1, -1), -14);
        due.is("fault", x.fault(), 4);
        due.is("size, least int", x.coast(0, 0, 0, Integer.MIN_VALUE), -14);
        due.is("i below 0", x.coast(0, 0, -1, 0), -13);
        due.is("i behind", x.coast(0, 0, 13, 0), -13);
        due.is("one too many", x.coast(0, 0, 0, 13), -13);
        due.is("one too many from 1", x.coast(0, 0, 1, 12), -13);
        due.is("far too many", x.coast(0, 0, 2, Integer.MAX_VALUE), -13);
        due.is("fault", x.fault(), 3);
        due.is("none at the end", x.coast(0, 0, 12, 0), -100);
        due.is("fault", x.fault(), 0);
        x.coast(0, 0, 13, 0);
        due.is("refused", x.coast(0, 5, 0, 0), -2);
        due.is("fault of a refused one", x.fault(), 0);
        due.is("many(0) stays", x.many(0), 2);
        x.put(3, 0, 0);
        due.is("fault", x.fault(), 1);
        due.is("taken", x.coast(0, 0, 0, 12), 2);
        due.is("fault of a taken one", x.fault(), 0);
    }

    private static void coastOfAPart() {
        DuelSeconds x = new DuelSeconds();
        String text = "xxd2;g111;h100yy";
        x.sheet(1, 1, text.length());
        for (int i = 0; i < text.length(); i++) {
            x.put(1, i, text.charAt(i));
        }
        due.is("from 2 on", x.coast(1, 1, 2, 12), 2);
        due.is("places of the text, not of the sheet", x.coast(1, 1, 2, 13), -112);
        due.is("places of the text, not of the sheet", x.coast(1, 1, 3, 12), -100);
    }

    private static void coastMakesAnew() {
        DuelSeconds x = Due.with(SIX);
        x.insult(0, 1, 0, 9);
        x.arrest(1, true);
        x.reading(0, 0, true);
        x.tell(0);
        x.sheet(2, 2, 3);
        x.put(2, 1, 77);
        due.is("no text changes nothing", x.coast(2, 2, 0, 3), -100);
        due.is("insults", x.many(1), 1);
        due.is("readings", x.many(2), 1);
        due.is("arrested", x.ofPerson(1, 5), 1);
        due.is("again", x.coast(0, 0, 0, 32), 6);
        due.is("insults", x.many(1), 0);
        due.is("readings", x.many(2), 0);
        due.is("meetings", x.many(3), 0);
        due.is("arrested", x.ofPerson(1, 5), 0);
        due.is("trace", x.trace(), 1);
        due.is("cell", x.cell(2, 1, 2), 77);
        x.put(0, 4, '9');
        due.is("a coast doesn't follow its sheet", x.ofPerson(0, 1), 5);
        due.is("fewer", Due.coast(x, "d2;g111;h100"), 2);
        due.is("no person 2", x.ofPerson(2, 0), -1);
    }

    private static void ofPerson() {
        DuelSeconds x = Due.with(SIX);
        int[][] want = {
            {0, 5, 1, 2, 5, 0}, {1, 9, 3, 4, 1, 0}, {2, 2, 0, 5, 5, 0},
            {1, 1, 5, 0, 7, 0}, {0, 8, 5, 3, 2, 0}, {2, 6, 2, 1, 1, 0}};
        for (int p = 0; p < 6; p++) {
            for (int what = 0; what < 6; what++) {
                due.is("ofPerson(" + p + ", " + what + ")", x.ofPerson(p, what), want[p][what]);
            }
        }
        due.is("ofPerson(-1, 0)", x.ofPerson(-1, 9), -1);
        due.is("ofPerson(6, 0)", x.ofPerson(6, -1), -1);
        due.is("ofPerson(0, -1)", x.ofPerson(0, -1), -2);
        due.is("ofPerson(5, 6)", x.ofPerson(5, 6), -2);
    }

    private static void touchiness() {
        int[] gentleman = {9, 8, 7, 6, 5, 4, 3, 2, 1};
        int[] hothead = {7, 6, 5, 4, 3, 2, 1, 1, 1};
        int[] officer = {6, 5, 4, 3, 2, 1, 1, 1, 1};
        for (int honour = 1; honour <= 9; honour++) {
            DuelSeconds x = Due.with("d3;g" + honour + "12;h" + honour + "02;o" + honour + "01");
            due.is("gentleman of " + honour, x.ofPerson(0, 4), gentleman[honour - 1]);
            due.is("hothead of " + honour, x.ofPerson(1, 4), hothead[honour - 1]);
            due.is("officer of " + honour, x.ofPerson(2, 4), officer[honour - 1]);
        }
    }

    private static void insult() {
        DuelSeconds x = Due.with("d3;g512;h402;o301");
        due.is("no from", x.insult(-1, 0, 30, 0), -1);
        due.is("no from", x.insult(3, 0, 0, 1), -1);
        due.is("no to", x.insult(0, -1, 0, 1), -1);
        due.is("no to", x.insult(0, 3, 0, 1), -1);
        due.is("one", x.insult(1, 1, 0, 1), -1);
        due.is("day", x.insult(0, 1, -1, 1), -2);
        due.is("day", x.insult(0, 1, 30, 1), -2);
        due.is("degree", x.insult(0, 1, 0, 0), -2);
        due.is("degree", x.insult(0, 1, 0, 10), -2);
        due.is("none yet", x.many(1), 0);
        for (int k = 0; k < 8; k++) {
            due.is("insult " + k, x.insult(k % 3, (k + 1) % 3, k == 7 ? 29 : 0, k + 1), k);
        }
        due.is("full", x.insult(0, 1, 0, 9), -4);
        due.is("outside ahead of full", x.insult(0, 1, 30, 9), -2);
        due.is("unknown ahead of full", x.insult(0, 0, 0, 9), -1);
        due.is("many(1)", x.many(1), 8);
        due.is("no coast", new DuelSeconds().insult(0, 1, 0, 1), -1);
    }

    private static void sorry() {
        DuelSeconds x = Due.with("d4;g512;g423;g330;g201");
        x.insult(0, 1, 0, 9);
        x.insult(2, 3, 0, 9);
        x.insult(2, 3, 0, 9);
        due.is("sorry(-1)", x.sorry(-1), -2);
        due.is("sorry(4)", x.sorry(4), -2);
        due.is("sorry(0)", x.sorry(0), 3);
        due.is("sorry(2)", x.sorry(2), 1);
        due.is("the last ones go", x.many(3), 1);
        due.met(x, 0, 1, 2, 3, 1, 0, 3);
        due.is("sorry(2) of one", x.sorry(2), -2);
        due.is("next number", x.insult(2, 3, 1, 9), 1);
        due.is("sorry all", x.sorry(2), 0);
        due.is("none left", x.many(3), 0);
        due.is("sorry(0) of none", x.sorry(0), 0);
    }

    private static void arrest() {
        DuelSeconds x = Due.with("d2;g111;h100");
        due.is("no person", x.arrest(2, true), -1);
        due.is("no person", x.arrest(-1, false), -1);
        due.is("it was free", x.arrest(1, false), 0);
        due.is("arrested", x.arrest(1, true), 1);
        due.is("it was so", x.arrest(1, true), 0);
        due.is("is", x.ofPerson(1, 5), 1);
        due.is("the other one is not", x.ofPerson(0, 5), 0);
        due.is("let go", x.arrest(1, false), 1);
        due.is("is not", x.ofPerson(1, 5), 0);
    }
}
