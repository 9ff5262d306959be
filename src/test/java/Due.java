/** What the tests share: counting wrong answers, and putting texts on sheets. */
final class Due {
    /** Four gentlemen, see the tests that use it. */
    static final String FOUR = "d4;g512;g423;g330;g201";
    static final int LEAST = Integer.MIN_VALUE, MOST = Integer.MAX_VALUE;
    static final long LOST = Long.MIN_VALUE;

    private final String name;
    private String sentence = "";
    private int wrong;

    Due(String name) {
        this.name = name;
    }

    /** The words of the document that are tested from here on, and where they stand in it. */
    void says(String where, String words) {
        sentence = " (" + where + ": " + words + ")";
    }

    void is(String call, long got, long want) {
        if (got != want) {
            wrong++;
            System.out.println(name + ": " + call + " answered " + got + ", due is " + want + sentence);
        }
    }

    void end() {
        if (wrong > 0) {
            System.out.println(name + ": " + wrong + " answers are not as due");
            System.exit(1);
        }
        System.out.println(name + ": all answers are as due");
    }

    /** Puts a text on a sheet and makes a coast by it; what coast answers. */
    static int coast(DuelSeconds x, String text) {
        return coast(x, text, 0, 0);
    }

    static int coast(DuelSeconds x, String text, int sheet, int lane) {
        x.sheet(sheet, lane, text.length());
        for (int i = 0; i < text.length(); i++) {
            x.put(sheet, i, text.charAt(i));
        }
        return x.coast(sheet, lane, 0, text.length());
    }

    static DuelSeconds with(String text) {
        DuelSeconds x = new DuelSeconds();
        if (coast(x, text) < 0) {
            throw new IllegalStateException("no text: " + text);
        }
        return x;
    }

    /** The six facts of meeting k. */
    void met(DuelSeconds x, int k, int... facts) {
        for (int what = 0; what < facts.length; what++) {
            is("met(" + k + ", " + what + ")", x.met(k, what), facts[what]);
        }
    }
}
