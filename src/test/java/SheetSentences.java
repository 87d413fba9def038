/** Sheets: the terms' number 4, and promises 33 to 37. */
final class SheetSentences {
    private static final String RICH = SentencesTest.RICH;
    private static final String EIGHT = "8 * crosser(0, 0, 0)\n";

    private SheetSentences() {
    }

    static void ask(Sentences s) {
        s.term("SHEETS 0 .. 3 are rows of 8, 16, 32 bits, at most 40 numbers, or missing (as at first)");
        s.run("""
            put(0, 0, 0) = NONE; put(3, 0, 0) = NONE; put(4, 0, 0) = BEYOND; put(-1, 0, 0) = BEYOND
            sheet(0, 8, 40) = 1; sheet(3, 32, 40) = 1; sheet(3, 32, 41) = BEYOND; put(3, 39, 0) = 1
            put(3, 40, 0) = BEYOND; sheet(4, 8, 1) = BEYOND
            """);
        s.run("""
            sheet(0, 7, 1) = BEYOND; sheet(0, 9, 1) = BEYOND; sheet(0, 15, 1) = BEYOND; sheet(0, 17, 1) = BEYOND
            sheet(0, 31, 1) = BEYOND; sheet(0, 33, 1) = BEYOND; sheet(0, 24, 1) = BEYOND; sheet(0, 64, 1) = BEYOND
            put(0, 0, 0) = NONE
            """);
        sheet(s);
        put(s);
        move(s);
        moveRefused(s);
        loads(s);
        judge(s);
    }

    private static void sheet(Sentences s) {
        s.of(33, "A SHEET has n numbers, all 0, of so many bits (8, 16, 32; 0: it is missing, n doesn't matter): 1");
        for (int bits : new int[] {8, 16, 32}) {
            String of = ", " + bits + ", ";
            s.run(EIGHT + "sheet(0" + of + "40) = 1; put(0, 0, 5); put(0, 7, 6); put(0, 39, 7); sheet(0" + of + "40) = 1"
                + "; loads(0) = 8; ofCrosser(0, 3) = 0; ofCrosser(7, 3) = 0"
                + "; move(0, 39, 0, 0, 1) = 1; loads(0) = 8; ofCrosser(0, 3) = 0");
            s.run("sheet(3" + of + "0) = 1; put(3, 0, 0) = BEYOND; loads(3) = 0; judge(3) = -1"
                + "; sheet(3" + of + "1) = 1; put(3, 0, 0) = 1; put(3, 1, 0) = BEYOND");
            s.run("sheet(0" + of + "3); sheet(0, 0, 3) = 1; put(0, 0, 0) = NONE; sheet(0, 0, 0) = 1; loads(0) = NONE");
        }
        s.run("""
            sheet(1, 16, 3); sheet(1, 0, -1) = 1; judge(1) = NONE; sheet(1, 8, 2); sheet(1, 0, 41) = 1
            judge(1) = NONE; sheet(1, 0, MIN) = 1; sheet(1, 0, MAX) = 1; told(1) = 0; told(3) = 0
            """);
        // other bits in place of what was; the others stay
        s.run(EIGHT + """
            sheet(0, 8, 1); put(0, 0, 263); loads(0) = 1; ofCrosser(0, 3) = 7; sheet(1, 8, 2); sheet(0, 32, 2) = 1
            put(0, 0, 263); loads(0) = 0; put(1, 0, 263); loads(1) = 2; ofCrosser(0, 3) = 7
            """);
        s.of(33, "BEYOND");
        s.refuse(RICH, "BEYOND", "sheet(-1, 8, 1)", "sheet(4, 8, 1)", "sheet(MIN, 8, 1)", "sheet(MAX, 8, 1)", "sheet(4, 0, 1)", "sheet(-1, 0, 1)");
        s.refuse(RICH, "BEYOND", "sheet(0, 1, 1)", "sheet(0, 7, 1)", "sheet(0, 9, 1)", "sheet(0, 24, 1)", "sheet(0, 64, 1)", "sheet(0, -8, 1)", "sheet(0, MIN, 1)", "sheet(0, MAX, 1)");
        s.refuse(RICH, "BEYOND", "sheet(0, 8, 41)", "sheet(0, 16, 41)", "sheet(0, 32, 41)", "sheet(3, 8, MAX)");
        s.of(33, "STATE: n is below 0 (ahead of BEYOND of n)");
        s.refuse(RICH, "STATE", "sheet(0, 8, -1)", "sheet(1, 16, -1)", "sheet(3, 32, -1)", "sheet(0, 8, MIN)");
        s.refuse(RICH, "BEYOND", "sheet(4, 8, -1)", "sheet(0, 7, -1)");
    }

    private static void put(Sentences s) {
        s.of(34, "Number i of a SHEET becomes v (its lowest bits): 1");
        s.run(EIGHT + """
            sheet(0, 8, 8); put(0, 0, 1) = 1; put(0, 7, 99) = 1; loads(0) = 8; ofCrosser(0, 3) = 1
            ofCrosser(1, 3) = 0; ofCrosser(7, 3) = 99; put(0, 7, 98) = 1; loads(0) = 8; ofCrosser(7, 3) = 98
            """);
        s.run("""
            crosser(0, 0, 0); sheet(0, 8, 1); put(0, 0, 256); loads(0) = 1; put(0, 0, 355); loads(0) = 1
            ofCrosser(0, 3) = 99; put(0, 0, 356); loads(0) = 0; put(0, 0, -256); loads(0) = 1; ofCrosser(0, 3) = 0
            put(0, 0, -157); loads(0) = 1; ofCrosser(0, 3) = 99; put(0, 0, MIN); loads(0) = 1; put(0, 0, MAX)
            loads(0) = 0; put(0, 0, -1); loads(0) = 0; put(0, 0, 128); loads(0) = 0
            """);
        s.run("""
            crosser(0, 0, 0); sheet(0, 16, 1); put(0, 0, 256); loads(0) = 0; put(0, 0, 65536); loads(0) = 1
            put(0, 0, 65635); loads(0) = 1; ofCrosser(0, 3) = 99; put(0, 0, 65636); loads(0) = 0; put(0, 0, -65536)
            loads(0) = 1; ofCrosser(0, 3) = 0; put(0, 0, MIN); loads(0) = 1; put(0, 0, MAX); loads(0) = 0
            put(0, 0, 32768); loads(0) = 0
            """);
        s.run("""
            crosser(0, 0, 0); sheet(0, 32, 1); put(0, 0, 256); loads(0) = 0; put(0, 0, 65536); loads(0) = 0
            put(0, 0, MIN); loads(0) = 0; put(0, 0, MAX); loads(0) = 0; put(0, 0, 99); loads(0) = 1
            ofCrosser(0, 3) = 99
            """);
        s.run("sheet(0, 8, 40); put(0, 39, 1) = 1; put(0, 40, 1) = BEYOND");
        // numbers are Java's: the highest of 8 bits makes one that is below 0, and no WEAR
        s.run("""
            rope(2); crosser(0, 0, 0); sheet(0, 8, 2); splice(0, 127); put(0, 0, 127); who(0, 0) = 1; splice(0, 128)
            put(0, 0, 128); who(0, 0) = 0; sheet(0, 16, 2); put(0, 0, 128); who(0, 0) = 1
            """);
        s.of(34, "BEYOND: no such SHEET");
        s.refuse(RICH, "BEYOND", "put(-1, 0, 0)", "put(4, 0, 0)", "put(MIN, 0, 0)", "put(MAX, 0, 0)");
        s.of(34, "NONE: it is missing");
        s.refuse(RICH, "NONE", "put(3, 0, 0)", "put(3, -1, 0)", "put(3, 40, 0)");
        s.refuse(RICH + "sheet(0, 0, 0)", "NONE", "put(0, 0, 0)");
        s.of(34, "BEYOND: no such number");
        s.refuse(RICH, "BEYOND", "put(0, -1, 0)", "put(0, 5, 0)", "put(1, 3, 0)", "put(2, 40, 0)", "put(0, MIN, 0)", "put(0, MAX, 0)");
        s.refuse(RICH + "sheet(3, 8, 0)", "BEYOND", "put(3, 0, 0)");
    }

    private static void move(Sentences s) {
        s.of(35, "n numbers of a SHEET, from number i on, come to another one (or the same), from its number j on, as they all were: n");
        String rows = EIGHT + "sheet(0, 16, 5); put(0, 0, 1); put(0, 1, 2); put(0, 2, 3); put(0, 3, 4); put(0, 4, 5); sheet(3, 16, 3); put(3, 0, 21); put(3, 1, 22); put(3, 2, 23)\n";
        s.run(rows + """
            move(0, 2, 3, 0, 3) = 3; loads(3) = 3; ofCrosser(0, 3) = 3; ofCrosser(1, 3) = 4; ofCrosser(2, 3) = 5
            loads(0) = 5; ofCrosser(0, 3) = 1; ofCrosser(4, 3) = 5
            """);
        s.run(rows + """
            move(3, 0, 0, 2, 3) = 3; loads(0) = 5; ofCrosser(0, 3) = 1; ofCrosser(1, 3) = 2; ofCrosser(2, 3) = 21
            ofCrosser(3, 3) = 22; ofCrosser(4, 3) = 23
            """);
        s.run(rows + """
            move(0, 4, 3, 2, 1) = 1; loads(3) = 3; ofCrosser(0, 3) = 21; ofCrosser(1, 3) = 22; ofCrosser(2, 3) = 5
            """);
        // over itself: up, down, in place; none; all
        s.run(rows + """
            move(0, 0, 0, 1, 4) = 4; loads(0) = 5; ofCrosser(0, 3) = 1; ofCrosser(1, 3) = 1; ofCrosser(2, 3) = 2
            ofCrosser(3, 3) = 3; ofCrosser(4, 3) = 4
            """);
        s.run(rows + """
            move(0, 1, 0, 0, 4) = 4; loads(0) = 5; ofCrosser(0, 3) = 2; ofCrosser(1, 3) = 3; ofCrosser(2, 3) = 4
            ofCrosser(3, 3) = 5; ofCrosser(4, 3) = 5
            """);
        s.run(rows + """
            move(0, 0, 0, 0, 5) = 5; move(0, 0, 0, 0, 0) = 0; move(0, 5, 3, 3, 0) = 0; move(3, 3, 3, 3, 0) = 0
            loads(0) = 5; ofCrosser(0, 3) = 1; ofCrosser(4, 3) = 5; loads(3) = 3; ofCrosser(2, 3) = 23
            """);
        s.run("""
            sheet(0, 8, 40); sheet(1, 8, 40); sheet(2, 8, 0); move(0, 0, 1, 0, 40) = 40; move(0, 39, 1, 39, 1) = 1
            move(0, 40, 1, 40, 0) = 0; move(2, 0, 2, 0, 0) = 0; move(2, 0, 0, 40, 0) = 0
            """);
        s.run(EIGHT + """
            sheet(0, 32, 2); put(0, 0, 65536); sheet(1, 32, 2); put(1, 0, 5); move(0, 0, 1, 0, 1) = 1; loads(1) = 0
            move(0, 1, 1, 0, 1) = 1; loads(1) = 2; ofCrosser(0, 3) = 0
            """);
    }

    private static void moveRefused(Sentences s) {
        s.of(35, "BEYOND: no such SHEET");
        s.refuse(RICH, "BEYOND", "move(-1, 0, 0, 0, 1)", "move(4, 0, 0, 0, 1)", "move(0, 0, -1, 0, 1)", "move(0, 0, 4, 0, 1)", "move(MIN, 0, 0, 0, 0)",
            "move(MAX, 0, 0, 0, 0)", "move(0, 0, MIN, 0, 0)", "move(0, 0, MAX, 0, 0)", "move(3, 0, 4, 0, 1)", "move(4, 0, 3, 0, 1)");
        s.of(35, "NONE: one is missing");
        s.refuse(RICH, "NONE", "move(3, 0, 0, 0, 1)", "move(0, 0, 3, 0, 1)", "move(3, 0, 3, 0, 0)", "move(0, -1, 3, 0, 0)", "move(3, 0, 1, 0, 0)");
        s.of(35, "KIND: they are of unlike bits");
        s.refuse(RICH, "KIND", "move(0, 0, 1, 0, 1)", "move(1, 0, 0, 0, 1)", "move(0, 0, 1, 0, 0)", "move(0, 0, 2, 0, -1)", "move(0, 9, 2, 0, 1)");
        s.refuse(RICH + "sheet(3, 32, 5)", "KIND", "move(3, 0, 0, 0, 1)", "move(1, 0, 3, 0, 1)", "move(3, 0, 2, 0, 0)");
        s.of(35, "BEYOND: n, i, or j is below 0, or they don't stand there");
        s.refuse(RICH, "BEYOND", "move(1, 0, 2, 0, -1)", "move(1, -1, 2, 0, 1)", "move(1, 0, 2, -1, 1)", "move(1, -1, 2, 0, 0)", "move(1, 0, 2, -1, 0)",
            "move(1, 0, 2, 0, MIN)", "move(1, MIN, 2, 0, 1)", "move(1, 0, 2, MIN, 1)");
        s.refuse(RICH, "BEYOND", "move(1, 0, 2, 0, 4)", "move(1, 3, 2, 0, 1)", "move(1, 2, 2, 0, 2)", "move(2, 0, 1, 0, 4)", "move(2, 0, 1, 3, 1)", "move(2, 0, 1, 2, 2)",
            "move(2, 0, 2, 1, 40)", "move(2, 1, 2, 0, 40)", "move(2, 0, 2, 40, 1)", "move(2, 40, 2, 0, 1)", "move(1, 4, 2, 0, 0)", "move(2, 0, 1, 4, 0)");
        s.refuse(RICH, "BEYOND", "move(1, MAX, 2, 0, 1)", "move(1, 0, 2, MAX, 1)", "move(1, 0, 2, 0, MAX)", "move(1, 1, 2, 1, MAX)", "move(1, MAX, 2, MAX, MAX)", "move(2, 2, 2, 2, MAX)");
    }

    private static void loads(Sentences s) {
        s.of(36, "Numbers of a SHEET become LOADS of CROSSERS 0, 1, ..: how many, up to the first that is not 0 to 99 (no ERROR then)");
        s.run(EIGHT + """
            sheet(0, 16, 40); put(0, 0, 99); put(0, 7, 1); put(0, 8, 100); loads(0) = 8; ofCrosser(0, 3) = 99
            ofCrosser(7, 3) = 1; put(0, 7, 100); put(0, 0, 98); loads(0) = 7; ofCrosser(0, 3) = 98
            ofCrosser(7, 3) = 1
            """);
        s.run(EIGHT + """
            change(0, 1, 50); change(1, 1, 51); change(2, 1, 52); sheet(0, 16, 2); loads(0) = 2; ofCrosser(0, 3) = 0
            ofCrosser(1, 3) = 0; ofCrosser(2, 3) = 52; sheet(0, 16, 0); loads(0) = 0; ofCrosser(2, 3) = 52
            """);
        s.run("""
            crosser(0, 0, 0); crosser(0, 0, 0); change(0, 1, 7); change(1, 1, 8); sheet(0, 32, 3); put(0, 0, 100)
            loads(0) = 0; ofCrosser(0, 3) = 7; ofCrosser(1, 3) = 8; put(0, 0, -1); loads(0) = 0; put(0, 0, 99)
            put(0, 1, -1); loads(0) = 1; ofCrosser(0, 3) = 99; ofCrosser(1, 3) = 8; told(1) = 0; told(2) = 0
            told(3) = 0; told(4) = 0; told(5) = 0
            """);
        s.run("""
            sheet(0, 8, 3); loads(0) = 0; crosser(0, 0, 0); loads(0) = 1; crosser(0, 0, 0); crosser(0, 0, 0)
            crosser(0, 0, 0); loads(0) = 3
            """);
        // whoever they are: in, north, held
        s.run(RICH + """
            change(2, 3, 3); loads(0) = 3; ofCrosser(0, 3) = 1; ofCrosser(1, 3) = 2; ofCrosser(2, 3) = 3
            ofCrosser(0, 6) = 5
            """);
        s.of(36, "BEYOND: no such SHEET");
        s.refuse(RICH, "BEYOND", "loads(-1)", "loads(4)", "loads(MIN)", "loads(MAX)");
        s.of(36, "NONE: it is missing");
        s.refuse(RICH, "NONE", "loads(3)");
        s.refuse("", "NONE", "loads(0)", "loads(3)");
    }

    private static void judge(Sentences s) {
        s.of(37, "Numbers of a SHEET are STATES of CROSSERS 0, 1, ..: the first that isn't so (one that lacks, or is too many, too); -1: all are");
        s.run(EIGHT + """
            sheet(0, 8, 8); judge(0) = -1; change(7, 3, 3); judge(0) = 7; put(0, 7, 3); judge(0) = -1
            change(0, 3, 2); judge(0) = 0; put(0, 0, 2); judge(0) = -1; put(0, 7, 2); judge(0) = 7
            """);
        s.run(EIGHT + """
            sheet(0, 8, 7); judge(0) = 7; sheet(0, 8, 9); judge(0) = 8; sheet(0, 8, 40); judge(0) = 8
            sheet(0, 8, 0); judge(0) = 0; sheet(0, 8, 1); judge(0) = 1; put(0, 0, 1); judge(0) = 0
            """);
        s.run("""
            sheet(0, 8, 0); judge(0) = -1; sheet(0, 8, 1); judge(0) = 0; sheet(0, 8, 40); judge(0) = 0
            crosser(0, 0, 0); judge(0) = 1; sheet(0, 8, 1); judge(0) = -1; put(0, 0, 256); judge(0) = -1
            put(0, 0, -1); judge(0) = 0
            """);
        s.run(RICH + """
            sheet(3, 32, 3); judge(3) = 0; put(3, 0, 1); judge(3) = 1; put(3, 1, 1); judge(3) = -1; put(3, 2, 65536)
            judge(3) = 2; put(3, 2, MIN); judge(3) = 2; told(1) = 0
            """);
        s.of(37, "BEYOND: no such SHEET");
        s.refuse(RICH, "BEYOND", "judge(-1)", "judge(4)", "judge(MIN)", "judge(MAX)");
        s.of(37, "NONE: it is missing");
        s.refuse(RICH, "NONE", "judge(3)");
        s.refuse("", "NONE", "judge(0)", "judge(3)");
    }
}
