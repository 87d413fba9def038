/** Voices and their trace: of the terms, and promises 31, 32. */
final class VoiceSentences {
    private static final String RICH = SentencesTest.RICH;

    private VoiceSentences() {
    }

    static void ask(Sentences s) {
        acts(s);
        bodies(s);
        which(s);
        trace(s);
        voice(s);
    }

    /** Of crosser 7, with m 9 (but for what km says): what he answers, and the bodies in order. */
    private static void says(Sentences s, int km, int act, String x, int want, int... bodies) {
        StringBuilder script = new StringBuilder("7 * crosser(0, 0, 0); crosser(" + km + ", 0, 0)\n");
        script.append("voice(7, " + act + ", " + x + ") = " + want + "\ncount(12) = " + bodies.length + "\n");
        for (int i = 0; i < bodies.length; i++) {
            script.append("trace(" + i + ") = " + bodies[i] + "\n");
        }
        s.run(script.append("trace(" + bodies.length + ") = NONE").toString());
    }

    private static void acts(Sentences s) {
        s.term("VOICES of a CROSSER, with a number x (ints that go round); n is the number, m as told: 0 counts, 1 jumps, 2 trips, 3 runs");
        says(s, 9, 0, "100", 107, 10);
        says(s, 9, 1, "100", 214, 11, 10);
        says(s, 9, 2, "100", 91, 12);
        says(s, 9, 3, "100", 141, 13, 11, 10, 12);
        says(s, 9, 0, "MAX", -2147483642, 10);
        says(s, 9, 1, "MAX", 12, 11, 10);
        says(s, 9, 2, "MIN", 2147483639, 12);
        says(s, 9, 0, "-7", 0, 10);
        s.run("""
            8 * crosser(9, 0, 0); voice(0, 0, 100) = 100; voice(1, 0, 100) = 101; become(0, 0)
            voice(0, 2, 100) = 100; voice(7, 2, 9) = 0; voice(7, -1, 0) = BEYOND; voice(7, 4, 0) = BEYOND
            """);
    }

    private static void bodies(Sentences s) {
        s.term("BODIES: CROSSER: 10 counts: x + n");
        says(s, 0, 0, "MAX", -2147483642, 10);
        s.term("11 jumps: counts(x) * 2");
        says(s, 0, 1, "1073741817", -2147483648, 11, 10);
        s.term("12 trips: x - m");
        says(s, 1, 2, "MIN", 2147483647, 12);
        s.term("13 runs: jumps(x) ^ trips(x)");
        says(s, 9, 3, "MAX", 12 ^ 2147483638, 13, 11, 10, 12);
        s.term("SMUGGLER: 20 counts: super.counts(x) * 3");
        says(s, 19, 0, "100", 321, 20, 10);
        says(s, 19, 0, "715827876", -2147483647, 20, 10);
        s.term("CARTER: 30 jumps: super.jumps(x) - trips(1)");
        says(s, 29, 1, "100", 222, 30, 11, 10, 12);
        says(s, 29, 1, "1073741816", -2147483642, 30, 11, 10, 12);
        s.term("CHILD: 40 trips: -super.trips(x)");
        says(s, 39, 2, "100", -91, 40, 12);
        says(s, 30, 2, "MIN", -2147483648, 40, 12);
        s.term("ARMY: 50 runs: super.runs(x) - counts(2)");
        says(s, 49, 3, "100", 702, 50, 13, 11, 20, 10, 12, 20, 10);
        s.term("TOURIST: 60 jumps: super.jumps(x + 1)");
        says(s, 59, 1, "100", 224, 60, 30, 11, 10, 12);
        says(s, 59, 1, "MAX", 22, 60, 30, 11, 10, 12);
        s.term("LOVER: 70 trips: super.trips(x) ^ n");
        says(s, 69, 2, "100", -94, 70, 40, 12);
        s.term("71 runs: jumps(x) - super.runs(x)");
        says(s, 69, 3, "100", 354, 71, 11, 10, 13, 11, 10, 70, 40, 12);
    }

    private static void which(Sentences s) {
        s.term("counts(..) is the BODY of its KIND, or of the next KIND above that has one");
        says(s, 49, 0, "1", 24, 20, 10);
        says(s, 49, 1, "1", 48, 11, 20, 10);
        says(s, 19, 3, "100", 729, 13, 11, 20, 10, 12);
        says(s, 59, 0, "1", 8, 10);
        says(s, 59, 2, "1", -8, 12);
        says(s, 59, 3, "100", 224 ^ 91, 13, 60, 30, 11, 10, 12, 12);
        says(s, 69, 0, "1", 8, 10);
        says(s, 69, 1, "1", 16, 11, 10);
        says(s, 39, 3, "100", 214 ^ -91, 13, 11, 10, 40, 12);
        says(s, 29, 3, "100", 222 ^ 91, 13, 30, 11, 10, 12, 12);
    }

    private static void trace(Sentences s) {
        s.term("THE TRACE: the numbers of BODIES of the latest voice(), as they began (what stands left is worked out first), the first 40");
        // the longest, and then shorter ones; no voice has 40
        s.run("""
            count(12) = 0; trace(0) = NONE; crosser(69, 0, 0); voice(0, 3, 1); count(12) = 9; trace(0) = 71
            trace(8) = 12; trace(9) = NONE; voice(0, 1, 1); count(12) = 2; trace(0) = 11; trace(1) = 10
            trace(2) = NONE; voice(0, 0, 1); count(12) = 1; trace(1) = NONE
            """);
        s.of(32, "THE TRACE's i-th");
        s.run("""
            crosser(49, 0, 0); voice(0, 3, 5); trace(0) = 50; trace(1) = 13; trace(2) = 11; trace(3) = 20
            trace(4) = 10; trace(5) = 12; trace(6) = 20; trace(7) = 10; count(12) = 8
            """);
        s.of(32, "NONE: there is none such");
        s.refuse("", "NONE", "trace(0)", "trace(-1)", "trace(40)");
        s.refuse(RICH, "NONE", "trace(-1)", "trace(8)", "trace(39)", "trace(40)", "trace(41)", "trace(MIN)", "trace(MAX)");
    }

    private static void voice(Sentences s) {
        s.of(31, "A VOICE of a CROSSER: any number");
        s.run("""
            crosser(0, 0, 0); voice(0, 0, -1000000001) = -1000000001; voice(0, 0, MIN) = -2147483648
            voice(0, 0, MAX) = 2147483647; voice(0, 2, -1000000005) = -1000000005; told(1) = 0; told(5) = 0
            """);
        s.of(31, "BEYOND");
        s.refuse("", "BEYOND", "voice(0, 0, 0)");
        s.refuse(RICH, "BEYOND", "voice(3, 0, 0)", "voice(-1, 0, 0)", "voice(8, 0, 0)", "voice(MIN, 0, 0)", "voice(MAX, 0, 0)",
            "voice(0, 4, 0)", "voice(0, -1, 0)", "voice(0, MIN, 0)", "voice(0, MAX, 0)");
    }
}
