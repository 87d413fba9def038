/** What the terms say of ERRORS and quotients, ahead of their numbers. */
final class ErrorSentences {
    private static final String RICH = SentencesTest.RICH;

    private ErrorSentences() {
    }

    static void ask(Sentences s) {
        s.term("ERRORS are answers below -1000000000");
        s.run("""
            wear(-1) = -1000000001
            relief() = -1000000002
            sheet(0, 8, -1) = -1000000003
            4 * turner(9)
            turner(9) = -1000000004
            crosser(0, 0, 0)
            as(0, 1) = -1000000005
            """);
        s.term("Each act tells its ERRORS in the order");
        ordersOfTwo(s);
        ordersOfMore(s);
        quotients(s);
    }

    /** Each call of the first rows merits both ERRORS. */
    private static void ordersOfTwo(Sentences s) {
        s.refuse("crosser(0, 0, 0)", "BEYOND", "rope(1)", "rope(9)");
        s.refuse("crosser(0, 0, 0)", "STATE", "rope(4)");
        s.refuse("4 * turner(9)", "BEYOND", "turner(0)", "turner(100)");
        s.refuse("4 * turner(9)", "FULL", "turner(1)");
        s.refuse("8 * crosser(0, 0, 0)", "BEYOND", "crosser(70, 0, 0)", "crosser(0, 10, 0)", "crosser(0, 0, 4)",
            "crosser(-1, 0, 0)", "crosser(0, -1, 0)", "crosser(0, 0, -1)");
        s.refuse("8 * crosser(0, 0, 0)", "FULL", "crosser(0, 0, 0)");
        s.refuse("6 * feed(0, 8)", "BEYOND", "feed(0, 9)", "feed(0, MAX)", "feed(0, 0)");
        s.refuse("6 * feed(0, 8)", "FULL", "feed(0, 3)", "feed(0, 8)");
        s.refuse(RICH, "BEYOND", "as(0, 7)", "as(3, 6)", "as(3, 7)");
        s.refuse(RICH, "KIND", "as(0, 6)");
        s.refuse(SentencesTest.LAST_BEAT, "BEYOND", "beats(201)", "beats(MAX)", "loose(41)", "loose(MAX)");
        s.refuse(SentencesTest.LAST_BEAT, "STATE", "beats(1)", "loose(1)");
        s.refuse(RICH, "BEYOND", "over(3)", "parts(1000)", "who(4, 0)", "who(3, 201)", "who(1, -1)");
        s.refuse(RICH, "NONE", "over(2)", "parts(999)", "who(3, 200)", "who(1, 0)");
        s.refuse(RICH, "BEYOND", "odds(0, 201, 0)", "odds(0, -1, 1)", "odds(0, 0, 2)", "odds(3, 0, 0)");
        s.refuse(RICH, "STATE", "odds(0, 200, 0)");
        s.refuse(RICH, "BEYOND", "loads(4)", "judge(4)");
        s.refuse(RICH, "NONE", "loads(3)", "judge(3)");
        // what no TEXT goes on with is no ERROR: BEYOND is asked first
        s.run("feed(0x78, 1); text(2) = BEYOND; count(10) = 1; text(0) = -10");
    }

    private static void ordersOfMore(Sentences s) {
        String never = "turner(50); crosser(0, 0, 0); crosser(0, 0, 1); write(0, 1); change(0, 3, 3)\n";
        s.refuse(never, "BEYOND", "begin(2)");
        s.refuse(never, "STATE", "begin(0)");
        s.refuse(never, "NONE", "begin(1)");
        s.refuse(never + "rhyme(9, 0)", "BEYOND", "rhymes(61, 1, 0, 1)", "rhymes(-1, 1, 0, 1)", "rhymes(0, 4, 0, 1)",
            "rhymes(0, 0, 4, 1)", "rhymes(0, 1, 1, 1)", "rhymes(0, 1, 0, 2)");
        s.refuse(never + "rhyme(9, 0)", "STATE", "rhymes(0, 1, 0, 1)");
        s.refuse(never, "NONE", "rhymes(0, 1, 0, 1)");
        s.refuse(RICH, "BEYOND", "sheet(4, 7, -1)", "sheet(4, 8, -1)", "sheet(4, 8, 41)", "sheet(0, 7, -1)", "sheet(0, 7, 41)");
        s.refuse(RICH, "STATE", "sheet(0, 8, -1)", "sheet(3, 8, -1)");
        s.refuse(RICH, "BEYOND", "sheet(0, 8, 41)", "sheet(3, 8, 41)");
        s.refuse(RICH, "BEYOND", "put(4, -1, 0)");
        s.refuse(RICH, "NONE", "put(3, -1, 0)");
        s.refuse(RICH, "BEYOND", "put(0, -1, 0)");
        s.refuse(RICH, "BEYOND", "move(3, -1, 4, 0, 0)", "move(4, 0, 3, 0, -1)", "move(0, 0, -1, -1, 1)");
        s.refuse(RICH, "NONE", "move(3, 0, 0, 0, -1)", "move(0, -1, 3, 0, 1)", "move(3, 0, 3, -1, 1)");
        s.refuse(RICH, "KIND", "move(0, 0, 1, 0, -1)", "move(1, -1, 0, 0, 1)", "move(0, 0, 2, -1, 1)", "move(0, 0, 1, 0, 41)");
        s.refuse(RICH, "BEYOND", "move(1, 0, 2, 0, -1)", "move(1, -1, 2, 0, 1)", "move(1, 0, 2, -1, 1)", "move(1, 0, 2, 0, 4)");
    }

    private static void quotients(Sentences s) {
        s.term("Quotients are cut (toward 0)");
        s.run("""
            crosser(20, 0, 0)
            change(0, 1, 9); ofCrosser(0, 8) = 1
            change(0, 1, 10); ofCrosser(0, 8) = 2
            change(0, 1, 19); ofCrosser(0, 8) = 2; ofCrosser(0, 7) = 1
            change(0, 1, 20); ofCrosser(0, 8) = 3; ofCrosser(0, 7) = 2
            change(0, 1, 39); ofCrosser(0, 7) = 2
            change(0, 1, 99); ofCrosser(0, 8) = 10; ofCrosser(0, 7) = 5
            write(5+l/2, 0) = 1
            law(0, 0, 1, 0) = 5; law(0, 0, -1, 0) = 5; law(0, 0, -2, 0) = 4; law(0, 0, -3, 0) = 4
            write(5+l/(0-2), 0) = 1
            law(0, 0, 1, 0) = 5; law(0, 0, 3, 0) = 4; law(0, 0, -3, 0) = 6
            """);
    }
}
