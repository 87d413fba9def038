/** Images, numbers that wait, counts, what is told: promises 38 to 43. */
final class ToldSentences {
    private static final String RICH = SentencesTest.RICH;
    private static final String LONG_SUM = "!0" + "+k".repeat(24);
    private static final String LONG_OR = "!1" + "|k".repeat(23) + "|b";
    /** All is as full as it can be; what is on the tape is a text, and the numbers that wait are right. */
    private static final String FULL = """
        rope(8); rhyme(16, 65534); turner(99); turner(98); turner(97); turner(96); relieve(3)
        crosser(69, 9, 7); crosser(58, 8, 6); crosser(47, 7, 5); crosser(36, 6, 4); crosser(25, 5, 3); crosser(14, 4, 2); crosser(3, 3, 1); crosser(52, 2, 0)
        change(7, 1, 99); change(6, 1, 98); change(5, 3, 2); change(4, 3, 3); go(255)
        write(%s, 0); write(%s, 1); seed(MIN); beats(3); splice(0, 999); splice(7, 998); 13 * tell(1); 7 * tell(5)
        feed(0x6b2b6b2b6b2b3021, 8); 5 * feed(0x6b2b6b2b6b2b6b2b, 8); feed(0x6b2b, 2)
        sheet(0, 8, 8); put(0, 7, 3); voice(0, 3, 1)
        """.formatted(LONG_SUM, LONG_OR);
    private static final String CHANGES = """
        rhyme(3, 1); relieve(1); go(0); text(0); write(9, 0); write(b=1, 1); feed(0x31, 1); seed(3); check(); tell(7); loose(9)
        become(0, 11); become(7, 12); change(0, 0, 0); change(0, 1, 2); change(0, 2, 3); change(0, 3, 3); change(7, 1, 0); change(7, 3, 3); change(5, 3, 0)
        splice(0, 500); splice(1, 501); splice(6, 502); splice(7, 503)
        """;

    private ToldSentences() {
    }

    static void ask(Sentences s) {
        image(s);
        restore(s);
        tell(s);
        check(s);
        count(s);
        told(s);
    }

    private static void image(Sentences s) {
        s.of(38, "All (but SHEETS, THE TRACE, what told() tells, and how often this was done) is kept as an IMAGE, in place of one ahead: how often that was done");
        s.run("image() = 1; image() = 2; restore() = 0; image() = 3; beats(1); image() = 4; restore() = 1");
        s.run(FULL + """
            image(); check() = 0; text(0) = 1; law(0, 0, 0, 0) = 1; write(9, 0); 20 * tell(9); restore() = 3
            check() = 0; text(0) = 1; law(0, 0, 0, 0) = 1; law(0, 1, 0, 0) = 9
            """);
        s.alike(FULL + "image()\n" + CHANGES + "restore()", FULL + "image()");
        s.alike(FULL + "image()\n" + CHANGES + "restore()\n" + CHANGES + "restore()", FULL + "image()");
        s.alike("image()\n" + FULL + "restore(); sheet(0, 0, 0); crosser(69, 0, 0); voice(0, 3, 1); restore()", "image(); crosser(69, 0, 0); voice(0, 3, 1); restore()");
        s.alike("turner(9); crosser(11, 2, 2); image(); go(1); beats(2); image(); beats(3); go(0); restore()", "turner(9); crosser(11, 2, 2); go(1); beats(2); image(); image()");
        // what is left out: a sheet, one number of it, the trace, ERRORS, how often
        s.run("""
            crosser(69, 0, 0); crosser(0, 0, 0); sheet(0, 8, 2); sheet(1, 8, 2); voice(0, 0, 1); wear(4)
            image() = 1; sheet(0, 0, 0); sheet(2, 8, 2); put(1, 1, 5); voice(0, 3, 1); wear(4); relief()
            restore() = 0; judge(0) = NONE; judge(2) = -1; judge(1) = 1; count(12) = 9; trace(0) = 71; told(1) = 2
            told(2) = 2; image() = 2
            """);
        // in place of one ahead
        s.run("""
            seed(5); image(); seed(6); image(); seed(7); restore(); count(13) = 6; seed(8); restore(); count(13) = 6
            """);
    }

    private static void restore(Sentences s) {
        s.of(39, "All is as the IMAGE has it, which stays: BEAT");
        s.run("""
            beats(200); beats(50); image(); beats(3); restore() = 250; count(3) = 250; beats(200); restore() = 250
            restore() = 250; beats(1); image(); restore() = 251
            """);
        s.run("""
            image(); rope(8); splice(7, 5); restore() = 0; count(0) = 4; wear(4) = BEYOND; rope(8) = 4; wear(7) = 0
            """);
        // who comes anew has nothing of who was there
        s.run("""
            image(); 4 * turner(50); 8 * crosser(29, 5, 3); change(7, 1, 99); go(255); beats(3); restore() = 0
            count(4) = 0; count(6) = 0; count(7) = 0; turner(60) = 0; ofTurner(0, 1) = 0; 7 * crosser(0, 0, 0)
            crosser(1, 0, 0) = 7; ofCrosser(7, 3) = 0; ofCrosser(7, 5) = 0; ofCrosser(7, 6) = 0; ofCrosser(0, 5) = 0
            ofCrosser(0, 6) = 0; ofCrosser(7, 9) = 0
            """);
        // no TEXT is kept, too; the last BEAT can be left behind
        s.run("image(); write(5, 0); write(0, 1); restore(); law(0, 0, 20, 0) = 2; law(1, 0, 0, 0) = 1");
        s.run("image(); 499 * beats(200); beats(199); count(3) = 99999; restore() = 0; beats(1) = 0; count(3) = 1");
        s.of(39, "NONE: there is none");
        s.refuse("", "NONE", "restore()");
        s.refuse("rope(5); turner(5); crosser(0, 0, 0); go(1); tell(5); feed(0x31, 1); sheet(0, 8, 1)", "NONE", "restore()");
    }

    private static void tell(Sentences s) {
        s.of(40, "One more number waits: how many");
        s.run("""
            tell(0) = 1; tell(MIN) = 2; tell(MAX) = 3; tell(-1) = 4; count(11) = 4; 15 * tell(9); tell(0) = 20
            count(11) = 20
            """);
        s.of(40, "FULL: 20 wait");
        s.run("19 * tell(0); tell(0) = 20; tell(0) = FULL; tell(MIN) = FULL; count(11) = 20; check() = 0; tell(0) = 1");
        s.refuse(RICH + "18 * tell(1)", "FULL", "tell(0)", "tell(MAX)");
    }

    private static void check(Sentences s) {
        s.of(41, "The numbers that wait (none do then) are how many CROSSERS are NORTH behind 1, 2, .. BEATS: 0; else 1 and the place (from 0) of the first that isn't so");
        s.run("""
            check() = 0; crosser(0, 0, 0); go(1); tell(0); check() = 1; count(11) = 0; check() = 0; tell(1)
            check() = 0; tell(1); tell(1); tell(0); check() = 3; count(11) = 0; count(3) = 0
            """);
        // north behind 6, 10, 10
        String right = "5 * tell(0); 4 * tell(1); ";
        s.run(SentencesTest.THREE + right + "11 * tell(3); count(11) = 20; check() = 0; count(11) = 0; count(3) = 0; ofCrosser(0, 5) = 0");
        s.run(SentencesTest.THREE + right + "10 * tell(3); tell(2); check() = 20");
        s.run(SentencesTest.THREE + "tell(1); " + "5 * tell(0); check() = 1; count(11) = 0");
        s.run(SentencesTest.THREE + "6 * tell(0); tell(0); check() = 6; count(11) = 0; " + right + "tell(3); check() = 0");
        s.run(SentencesTest.THREE + """
            tell(0); tell(MIN); check() = 2; tell(0); tell(MAX); check() = 2; tell(-1); check() = 1; told(1) = 0
            """);
        s.run("""
            8 * crosser(0, 0, 0); go(255); 20 * tell(8); check() = 0; tell(255); check() = 1; told(1) = 0
            told(2) = 0
            """);
    }

    private static void count(Sentences s) {
        s.of(42, "0 PLACES, 1 p, 2 beats that are DOWN, as a set, 3 BEAT, 4 TURNERS, 5 who TURNS, 6 CROSSERS");
        s.run(FULL + """
            count(0) = 8; count(1) = 16; count(2) = 65534; count(3) = 3; count(4) = 4; count(5) = 3; count(6) = 8
            count(7) = 255; count(8) = 32; count(9) = 16; count(10) = 50; count(11) = 20; count(12) = 9
            count(13) = -2147483648
            """);
        s.run("""
            8 * crosser(0, 0, 0); go(255); beats(1); count(8) = 255; count(9) = 0; change(0, 3, 3); count(8) = 254
            count(9) = 1; change(7, 3, 3); count(8) = 126; count(9) = 129; rhyme(16, 65535); count(2) = 65535
            """);
        s.run("""
            8 * crosser(0, 0, 0); change(0, 3, 3); change(1, 3, 3); change(2, 3, 3); change(3, 3, 3)
            change(4, 3, 3); change(5, 3, 3); change(6, 3, 3); change(7, 3, 3); count(9) = 255; count(8) = 0
            """);
        s.run("""
            rope(2); rhyme(1, 1); count(0) = 2; count(1) = 1; count(2) = 1; rhyme(1, 0); count(2) = 0
            seed(-1000000002); count(13) = -1000000002; told(2) = 0
            """);
        s.of(42, "BEYOND");
        s.refuse(RICH, "BEYOND", "count(-1)", "count(14)", "count(MIN)", "count(MAX)");
    }

    private static void told(Sentences s) {
        s.of(43, "How many acts have answered an ERROR LOW - k (k 1 .. 5); BEYOND: another k (counted, too)");
        s.run("""
            told(1) = 0; told(0) = BEYOND; told(1) = 1; told(6) = BEYOND; told(-1) = BEYOND; told(MIN) = BEYOND
            told(MAX) = BEYOND; told(1) = 5; told(2) = 0; told(3) = 0; told(4) = 0; told(5) = 0
            """);
        s.refuse(RICH, "BEYOND", "told(0)", "told(6)", "told(-1)", "told(MIN)", "told(MAX)");
        s.run("""
            3 * relief(); told(2) = 3; 2 * sheet(0, 8, -1); told(3) = 2; 8 * turner(5); told(4) = 4
            crosser(0, 0, 0); 5 * as(0, 1); told(5) = 5; told(1) = 0; told(2) = 3
            """);
        s.run("499 * wear(4); told(1) = 499; told(0) = -1000000001; told(1) = 500; told(2) = 0");
        // answers that only look so are none; nor are faults
        s.run("""
            crosser(0, 0, 0); seed(-1000000001); seed(5) = -1000000001; voice(0, 0, -1000000003) = -1000000003
            seed(-1000000004); count(13) = -1000000004; text(0) = -10; told(1) = 0; told(3) = 0; told(4) = 0
            """);
    }
}
