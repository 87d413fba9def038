/** What a test asked and which answers were not the ones that are due. */
final class Due {
    static final int LOW = -1000000000;
    static final int BEYOND = LOW - 1;
    static final int NONE = LOW - 2;
    static final int STATE = LOW - 3;
    static final int FULL = LOW - 4;
    static final int KIND = LOW - 5;

    private final String test;
    private int asked;
    private int wrong;

    Due(String test) {
        this.test = test;
    }

    void is(String what, long got, long want) {
        asked++;
        if (got != want) {
            wrong++;
            System.out.println(test + ": " + what + " answered " + got + ", due is " + want);
        }
    }

    void holds(String what, boolean is) {
        is(what, is ? 1 : 0, 1);
    }

    /** Feeds a text's bytes to the tape, and makes it that of the use: what text() answers. */
    static int write(RopeBorder x, String text, int use) {
        feedAll(x, text);
        return x.text(use);
    }

    static void feedAll(RopeBorder x, String text) {
        for (int i = 0; i < text.length(); i++) {
            x.feed(text.charAt(i), 1);
        }
    }

    void end() {
        System.out.println(test + ": " + asked + " answers asked, " + wrong + " not as due");
        if (wrong != 0 || asked == 0) {
            System.exit(1);
        }
    }
}
