/** Crossers: of the terms, and promises 7 to 12. */
final class CrosserSentences {
    private static final String RICH = SentencesTest.RICH;
    private static final String[] WORDS = {"1", "2", "3", "9"};

    private CrosserSentences() {
    }

    static void ask(Sentences s) {
        crossers(s);
        needs(s);
        wears(s);
        crosser(s);
        ofCrosser(s);
        change(s);
        become(s);
        as(s);
        go(s);
    }

    private static void crossers(Sentences s) {
        s.term("CROSSERS 0, 1, .. (at most 8), of KINDS");
        s.run("""
            crosser(-1, 0, 0) = BEYOND; crosser(0, 0, 0) = 0; 6 * crosser(9, 0, 0); crosser(69, 9, 3) = 7
            crosser(0, 0, 0) = FULL; count(6) = 8
            """);
        s.run("""
            crosser(70, 0, 0) = BEYOND; crosser(0, -1, 0) = BEYOND; crosser(0, 10, 0) = BEYOND
            crosser(0, 0, 4) = BEYOND; crosser(60, 9, 0) = 0
            """);
        int[] above = {0, 0, 0, 0, 1, 2, 3};
        for (int kind = 0; kind <= 6; kind++) {
            for (int m = 0; m <= 9; m += 9) {
                s.run("crosser(" + (10 * kind + m) + ", " + m + ", 3); ofCrosser(0, 0) = " + kind + "; ofCrosser(0, 1) = " + m
                    + "; ofCrosser(0, 2) = " + m + "; ofCrosser(0, 3) = 0; ofCrosser(0, 4) = 3; ofCrosser(0, 5) = 0; ofCrosser(0, 6) = 0"
                    + "; as(0, " + kind + ") = " + m + "; as(0, " + above[kind] + ") = " + m + "; as(0, 0) = " + m);
            }
        }
        s.run("""
            crosser(0, 0, 0); change(0, 1, -1) = BEYOND; change(0, 1, 100) = BEYOND; change(0, 1, 99) = 0
            change(0, 1, 0) = 99
            """);
    }

    /** NEEDS of a kind with an m, where the text gives 1, 2, 3, 9. */
    private static void needsOf(Sentences s, int km, int... want) {
        for (int i = 0; i < WORDS.length; i++) {
            s.run("crosser(" + km + ", 0, 0); write(" + WORDS[i] + ", 0); ofCrosser(0, 7) = " + want[i]
                + "; turner(9); rhyme(1, 0); go(1); beats(1); ofCrosser(0, 6) = " + want[i]);
        }
    }

    private static void needs(Sentences s) {
        s.term("NEEDS (JUMPS; v is what the TEXT gives): CROSSER: v");
        needsOf(s, 0, 1, 2, 3, 9);
        needsOf(s, 9, 1, 2, 3, 9);
        s.run("""
            crosser(0, 0, 0); ofCrosser(0, 7) = 1; write(0, 0); ofCrosser(0, 7) = 1; write(10, 0)
            ofCrosser(0, 7) = 9
            """);
        s.term("SMUGGLER: v less 1, 1 at least");
        needsOf(s, 10, 1, 1, 2, 8);
        needsOf(s, 19, 1, 1, 2, 8);
        s.term("CARTER: v and the rest of m by 3");
        needsOf(s, 20, 1, 2, 3, 9);
        needsOf(s, 22, 3, 4, 5, 11);
        needsOf(s, 23, 1, 2, 3, 9);
        needsOf(s, 28, 3, 4, 5, 11);
        needsOf(s, 29, 1, 2, 3, 9);
        s.term("CHILD: 1");
        needsOf(s, 30, 1, 1, 1, 1);
        needsOf(s, 39, 1, 1, 1, 1);
        s.term("ARMY: as SMUGGLER, and 2");
        needsOf(s, 40, 3, 3, 4, 10);
        needsOf(s, 49, 3, 3, 4, 10);
        s.term("TOURIST: twice CARTER's");
        needsOf(s, 50, 2, 4, 6, 18);
        needsOf(s, 52, 6, 8, 10, 22);
        needsOf(s, 59, 2, 4, 6, 18);
        s.term("LOVER: as CHILD, and 2");
        needsOf(s, 60, 3, 3, 3, 3);
        needsOf(s, 69, 3, 3, 3, 3);
    }

    /** WEARS of a kind with an m, with loads 0, 9, 10, 99: as told, and by a jump. */
    private static void wearsOf(Sentences s, int km, int... want) {
        int[] loads = {0, 9, 10, 99};
        for (int i = 0; i < loads.length; i++) {
            s.run("crosser(" + km + ", 0, 0); change(0, 1, " + loads[i] + "); ofCrosser(0, 8) = " + want[i]
                + "; turner(9); rhyme(2, 2); go(1); beats(2); wear(0) = " + want[i] + "; wear(1) = 0");
        }
    }

    private static void wears(Sentences s) {
        s.term("WEARS (by one JUMP): CROSSER: 1");
        wearsOf(s, 0, 1, 1, 1, 1);
        wearsOf(s, 9, 1, 1, 1, 1);
        s.term("SMUGGLER: 0");
        wearsOf(s, 19, 0, 0, 0, 0);
        s.term("CARTER: 1 and LOAD by 10");
        wearsOf(s, 20, 1, 1, 2, 10);
        wearsOf(s, 29, 1, 1, 2, 10);
        s.term("ARMY: m");
        wearsOf(s, 40, 0, 0, 0, 0);
        wearsOf(s, 49, 9, 9, 9, 9);
        s.term("LOVER: 2");
        wearsOf(s, 60, 2, 2, 2, 2);
        wearsOf(s, 69, 2, 2, 2, 2);
        s.term("(Others as the KIND above");
        wearsOf(s, 39, 1, 1, 1, 1);
        wearsOf(s, 59, 1, 1, 2, 10);
    }

    private static void crosser(Sentences s) {
        s.of(7, "A CROSSER (km: 10 times the KIND, and m) of a SKILL at a PLACE: the number");
        s.run("""
            crosser(0, 0, 0) = 0; crosser(9, 9, 3) = 1; crosser(10, 1, 1) = 2; crosser(69, 2, 2) = 3
            ofCrosser(1, 0) = 0; ofCrosser(1, 1) = 9; ofCrosser(1, 2) = 9; ofCrosser(1, 4) = 3
            ofCrosser(2, 0) = 1; ofCrosser(2, 1) = 0; ofCrosser(3, 0) = 6; ofCrosser(3, 1) = 9; ofCrosser(3, 9) = 0
            go(15) = 0; crosser(0, 0, 0) = 4; count(7) = 15; ofCrosser(4, 9) = 0; ofCrosser(4, 5) = 0
            """);
        s.of(7, "BEYOND");
        s.refuse(RICH, "BEYOND", "crosser(-1, 0, 0)", "crosser(70, 0, 0)", "crosser(MIN, 0, 0)", "crosser(MAX, 0, 0)",
            "crosser(0, -1, 0)", "crosser(0, 10, 0)", "crosser(0, MIN, 0)", "crosser(0, MAX, 0)",
            "crosser(0, 0, -1)", "crosser(0, 0, 5)", "crosser(0, 0, 8)", "crosser(0, 0, MIN)", "crosser(0, 0, MAX)");
        s.of(7, "FULL");
        s.run("""
            7 * crosser(0, 0, 0); crosser(11, 0, 0) = 7; crosser(0, 0, 0) = FULL; crosser(69, 9, 3) = FULL
            count(6) = 8; ofCrosser(7, 0) = 1
            """);
        s.refuse(RICH + "5 * crosser(0, 0, 0); go(255)", "FULL", "crosser(0, 0, 0)");
    }

    private static void ofCrosser(Sentences s) {
        s.of(8, "Of a CROSSER: 0 KIND, 1 m, 2 SKILL, 3 LOAD, 4 PLACE, 5 STATE, 6 JUMPS, 7 NEEDS, 8 WEARS, 9 whether he GOES");
        s.run("""
            turner(50); 7 * crosser(0, 0, 0); crosser(58, 9, 3); change(7, 1, 99); go(128); beats(2)
            ofCrosser(7, 0) = 5; ofCrosser(7, 1) = 8; ofCrosser(7, 2) = 9; ofCrosser(7, 3) = 99; ofCrosser(7, 4) = 3
            ofCrosser(7, 5) = 1; ofCrosser(7, 6) = 14; ofCrosser(7, 7) = 14; ofCrosser(7, 8) = 10; ofCrosser(7, 9) = 1
            ofCrosser(0, 0) = 0; ofCrosser(0, 1) = 0; ofCrosser(0, 2) = 0; ofCrosser(0, 3) = 0; ofCrosser(0, 4) = 0
            ofCrosser(0, 5) = 0; ofCrosser(0, 6) = 0; ofCrosser(0, 7) = 1; ofCrosser(0, 8) = 1; ofCrosser(0, 9) = 0
            ofCrosser(6, 9) = 0; change(7, 3, 2); ofCrosser(7, 5) = 2; change(7, 3, 3); ofCrosser(7, 5) = 3
            """);
        s.of(8, "BEYOND");
        s.refuse("", "BEYOND", "ofCrosser(0, 0)");
        s.refuse(RICH, "BEYOND", "ofCrosser(3, 0)", "ofCrosser(7, 0)", "ofCrosser(8, 9)", "ofCrosser(-1, 0)", "ofCrosser(MIN, 0)",
            "ofCrosser(MAX, 0)", "ofCrosser(0, 10)", "ofCrosser(0, -1)", "ofCrosser(0, MIN)", "ofCrosser(0, MAX)");
        s.refuse("8 * crosser(0, 0, 0)", "BEYOND", "ofCrosser(8, 0)");
    }

    private static void change(Sentences s) {
        s.of(9, "SKILL (what 0), LOAD (1), PLACE (2), STATE (3: 0, 2, 3; JUMPS are 0 then) of a CROSSER becomes v");
        s.run("""
            crosser(0, 5, 2); crosser(0, 5, 2)
            change(0, 0, 0) = 5; change(0, 0, 9) = 0; ofCrosser(0, 2) = 9; change(0, 1, 99) = 0; change(0, 1, 0) = 99
            change(0, 2, 0) = 2; change(0, 2, 3) = 0; ofCrosser(0, 4) = 3; change(0, 3, 2) = 0; change(0, 3, 3) = 2; change(0, 3, 0) = 3
            ofCrosser(1, 2) = 5; ofCrosser(1, 3) = 0; ofCrosser(1, 4) = 2; ofCrosser(1, 5) = 0
            """);
        for (int v : new int[] {0, 2, 3}) {
            s.run(RICH + "ofCrosser(0, 6) = 5; ofCrosser(1, 6) = 10; change(0, 3, " + v + ") = 1; ofCrosser(0, 5) = " + v
                + "; ofCrosser(0, 6) = 0; ofCrosser(1, 6) = 10; ofCrosser(0, 9) = 1");
        }
        // other changes leave JUMPS; one who stays what he is has none then, too
        s.run(RICH + """
            change(0, 0, 0) = 3; change(0, 1, 0) = 77; change(0, 2, 0) = 4; ofCrosser(0, 6) = 5; ofCrosser(0, 5) = 1
            """);
        s.run("""
            turner(2); crosser(21, 0, 0); go(1); beats(3); ofCrosser(0, 5) = 2; ofCrosser(0, 6) = 2
            change(0, 3, 2) = 2; ofCrosser(0, 6) = 0
            """);
        s.of(9, "BEYOND");
        s.refuse("", "BEYOND", "change(0, 0, 0)");
        s.refuse(RICH, "BEYOND", "change(3, 0, 0)", "change(-1, 0, 0)", "change(8, 0, 0)", "change(MIN, 0, 0)", "change(MAX, 0, 0)",
            "change(0, 4, 0)", "change(0, -1, 0)", "change(0, MIN, 0)", "change(0, MAX, 0)");
        s.refuse(RICH, "BEYOND", "change(0, 0, -1)", "change(0, 0, 10)", "change(0, 0, MIN)", "change(0, 0, MAX)",
            "change(0, 1, -1)", "change(0, 1, 100)", "change(0, 1, MIN)", "change(0, 1, MAX)",
            "change(0, 2, -1)", "change(0, 2, 5)", "change(0, 2, MIN)", "change(0, 2, MAX)",
            "change(0, 3, -1)", "change(0, 3, 1)", "change(0, 3, 4)", "change(0, 3, MIN)", "change(0, 3, MAX)", "change(2, 3, 1)");
    }

    private static void become(Sentences s) {
        s.of(10, "A CROSSER becomes one of a KIND, with m (km): the KIND that it was");
        s.run("""
            8 * crosser(33, 4, 2); become(7, 0) = 3; become(7, 69) = 0; ofCrosser(7, 0) = 6; ofCrosser(7, 1) = 9
            become(7, 9) = 6; ofCrosser(7, 0) = 0; ofCrosser(6, 0) = 3
            """);
        // all else stays, JUMPS too, though another KIND NEEDS others
        s.run(RICH + """
            become(0, 30) = 2; ofCrosser(0, 6) = 5; ofCrosser(0, 7) = 1; ofCrosser(0, 5) = 1; ofCrosser(0, 2) = 3
            ofCrosser(0, 3) = 77; ofCrosser(0, 4) = 4
            """);
        s.of(10, "BEYOND");
        s.refuse("", "BEYOND", "become(0, 0)");
        s.refuse(RICH, "BEYOND", "become(3, 0)", "become(-1, 0)", "become(8, 0)", "become(MIN, 0)", "become(MAX, 0)",
            "become(0, -1)", "become(0, 70)", "become(0, MIN)", "become(0, MAX)");
    }

    private static void as(Sentences s) {
        s.of(11, "A CROSSER as one of a KIND: m");
        s.run("""
            8 * crosser(44, 0, 0); as(7, 4) = 4; as(7, 1) = 4; as(7, 0) = 4; become(7, 0); as(7, 0) = 0
            become(7, 69); as(7, 6) = 9; as(7, 3) = 9
            """);
        s.of(11, "BEYOND");
        s.refuse("", "BEYOND", "as(0, 0)");
        s.refuse(RICH, "BEYOND", "as(3, 0)", "as(-1, 0)", "as(MIN, 0)", "as(MAX, 0)", "as(0, -1)", "as(0, 7)", "as(0, MIN)", "as(0, MAX)");
        s.of(11, "KIND: it isn't of that KIND, nor of one under it");
        int[] kinds = {1, 3, 5, 9, 19, 37, 73};
        for (int kind = 0; kind <= 6; kind++) {
            for (int asked = 0; asked <= 6; asked++) {
                boolean is = (kinds[kind] >> asked & 1) == 1;
                s.run("crosser(" + (10 * kind + 6) + ", 0, 0); as(0, " + asked + ") = " + (is ? "6" : "KIND"));
            }
        }
    }

    private static void go(Sentences s) {
        s.term("Who GOES: a set of CROSSERS (none at first)");
        s.run("""
            turner(50); rhyme(1, 0); 8 * crosser(0, 0, 0); count(7) = 0; ofCrosser(0, 9) = 0; ofCrosser(7, 9) = 0
            beats(9) = 0; ofCrosser(0, 5) = 0; go(0) = 0
            """);
        s.of(12, "Those of a set GO, no others: those who did");
        s.run("""
            go(0) = 0; crosser(0, 0, 0); go(1) = 0; go(1) = 1; go(0) = 1; 7 * crosser(0, 0, 0); go(255) = 0
            go(128) = 255; ofCrosser(7, 9) = 1; ofCrosser(6, 9) = 0; count(7) = 128
            """);
        // whoever they are: in, north, held
        s.run(RICH + "change(1, 3, 3); go(7) = 3; go(2) = 7; change(1, 3, 2); go(3) = 2");
        s.of(12, "BEYOND");
        s.refuse("", "BEYOND", "go(1)", "go(-1)");
        s.refuse(RICH, "BEYOND", "go(8)", "go(15)", "go(-1)", "go(MIN)", "go(MAX)");
        s.refuse("8 * crosser(0, 0, 0); go(5)", "BEYOND", "go(256)", "go(511)", "go(-256)");
    }
}
