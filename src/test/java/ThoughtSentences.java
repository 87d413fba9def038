/** What would be: the terms' number 3 up to odds, and promises 20 to 29. */
final class ThoughtSentences {
    private static final String RICH = SentencesTest.RICH;
    private static final String THREE = SentencesTest.THREE;
    /** Nobody can jump; the rope stands behind 20 beats, and lets all over who haven't tripped. */
    private static final String NO_JUMPS = "turner(20); crosser(0, 0, 0); write(0, 1)\n";
    private static final String EIGHT = """
        turner(50); rope(8); rhyme(2, 2); crosser(0, 0, 0); crosser(1, 0, 1); crosser(2, 0, 2); crosser(3, 0, 3)
        crosser(4, 0, 4); crosser(5, 0, 5); crosser(6, 0, 6); crosser(7, 0, 7)
        """;

    private ThoughtSentences() {
    }

    static void ask(Sentences s) {
        onlyThought(s);
        then(s);
        over(s);
        begin(s);
        rhymes(s);
        most(s);
        relief(s);
        stands(s);
        parts(s);
        who(s);
        odds(s);
    }

    private static void onlyThought(Sentences s) {
        s.term("(All this is only thought, BEAT beyond 99999, too");
        s.unchanged(RICH, "then(200, 0, 0)", "then(5, 1, 1)", "begin(2)", "rhymes(60, 4, 3, 0)", "rhymes(9, 4, 0, 1)", "most(60)",
            "relief()", "stands()", "parts(33)", "who(0, 200)", "odds(2, 200, 0)", "odds(2, 9, 1)");
        s.unchanged(THREE, "then(9, 1, 0)", "over(1)", "begin(0)", "rhymes(9, 1, 2, 0)", "most(9)", "parts(2)", "odds(1, 9, 0)");
        // BEAT is 99999, place 3 of the rhyme: in, then a jump at place 0, then out
        String last = SentencesTest.LAST_BEAT + "turner(50); go(1)\n";
        s.run(last + """
            over(0) = 3; then(1, 0, 0) = 1; then(2, 0, 1) = 0; then(3, 0, 0) = 2; then(200, 0, 0) = 2; stands() = 50
            parts(1) = 2; begin(0) = 0; count(3) = 99999
            """);
        s.run(last + """
            rhymes(3, 1, 0, 0) = 2; rhymes(3, 1, 0, 1) = 1; most(3) = 1; most(2) = 0; odds(0, 3, 1) = 4
            odds(0, 6, 1) = 1; odds(0, 5, 0) = 3; count(3) = 99999
            """);
        s.run(last + """
            tell(0); tell(0); tell(1); check() = 0; sheet(0, 8, 4); who(0, 1) = 1; who(0, 2) = 0; put(0, 0, 1)
            who(0, 200) = 1
            """);
    }

    private static void then(Sentences s) {
        s.term("BEHIND n BEATS (0 to 200)");
        s.run(THREE + """
            then(0, 0, 0) = 0; then(0, 2, 1) = 0; then(2, 0, 0) = 1; then(200, 0, 0) = 2; then(200, 1, 1) = 0
            then(-1, 0, 0) = BEYOND; then(201, 0, 0) = BEYOND
            """);
        s.run("""
            turner(99); rhyme(1, 0); crosser(0, 0, 0); go(1); then(99, 0, 0) = 1; then(99, 0, 1) = 1
            then(100, 0, 0) = 2; then(200, 0, 0) = 2; then(200, 0, 1) = 1
            """);
        s.of(20, "BEHIND n BEATS, of a CROSSER: what 0 STATE, 1 JUMPS");
        s.run(EIGHT + """
            go(128); then(0, 7, 0) = 0; then(0, 7, 1) = 0; then(1, 7, 0) = 1; then(1, 7, 1) = 1; then(2, 7, 1) = 0
            then(3, 7, 0) = 2; then(200, 6, 0) = 0
            """);
        s.run(RICH + """
            then(0, 0, 0) = 1; then(0, 0, 1) = 5; then(1, 0, 0) = 1; then(1, 0, 1) = 4; then(3, 0, 0) = 3
            then(3, 0, 1) = 4; then(200, 0, 0) = 3; then(200, 2, 0) = 0
            """);
        s.of(20, "BEYOND");
        s.refuse("", "BEYOND", "then(0, 0, 0)");
        s.refuse(RICH, "BEYOND", "then(-1, 0, 0)", "then(201, 0, 0)", "then(MIN, 0, 0)", "then(MAX, 0, 0)", "then(0, 3, 0)", "then(0, -1, 0)",
            "then(0, 8, 0)", "then(0, MIN, 0)", "then(0, MAX, 0)", "then(0, 0, 2)", "then(0, 0, -1)", "then(0, 0, MIN)", "then(0, 0, MAX)");
    }

    private static void over(Sentences s) {
        s.term("OVER: behind how many BEATS (0 to 200) a CROSSER is NORTH first");
        s.run("crosser(0, 0, 0); go(1); over(0) = 1; change(0, 3, 2); over(0) = 0; go(0); over(0) = 0");
        // as late as can be: it stands behind 99 beats
        s.run("""
            turner(99); rhyme(1, 1); crosser(0, 0, 0); go(1); over(0) = 100; rhyme(1, 0); over(0) = 100; beats(1)
            over(0) = 99
            """);
        s.of(21, "OVER");
        s.run(THREE + """
            over(0) = 6; over(1) = 10; over(2) = 10; beats(5); over(0) = 1; beats(1); over(0) = 0; over(1) = 4
            """);
        s.run(EIGHT + "go(128); over(7) = 3");
        s.of(21, "BEYOND");
        s.refuse("", "BEYOND", "over(0)");
        s.refuse(RICH, "BEYOND", "over(3)", "over(-1)", "over(8)", "over(MIN)", "over(MAX)");
        s.of(21, "NONE: not by 200");
        s.refuse(RICH, "NONE", "over(0)", "over(1)", "over(2)");
        s.run("crosser(0, 0, 0); over(0) = NONE; change(0, 3, 3); go(1); over(0) = NONE");
    }

    private static void begin(Sentences s) {
        s.term("BEGIN: the fewest BEATS (0 to p - 1) so that a CROSSER who doesn't GO till they are over");
        // in by beat 14 he trips at beat 15; the beat p - 1 is the first that does
        s.run(NO_JUMPS + """
            rhyme(16, 32768); begin(0) = 15; go(1); begin(0) = 15; rhyme(16, 16384); begin(0) = 14; rhyme(2, 2)
            begin(0) = NONE
            """);
        // behind 16 he would be over, but 16 are not fewer than p; it stands behind 16 and he needn't wait
        s.run(NO_JUMPS + "rhyme(16, 1); begin(0) = NONE");
        s.run("turner(17); crosser(0, 0, 0); write(0, 1); rhyme(16, 1); begin(0) = NONE");
        s.run("turner(16); crosser(0, 0, 0); write(0, 1); rhyme(16, 1); begin(0) = 0; then(16, 0, 0) = 0");
        s.run(NO_JUMPS + "rhyme(1, 0); begin(0) = 0; rhyme(1, 1); begin(0) = 0; rhyme(4, 15); begin(0) = 0");
        // all others as they do now: 1 trips at the beat at which 0 would come in, or isn't there
        s.run("""
            turner(50); crosser(0, 0, 0); crosser(0, 0, 0); rhyme(4, 5); write(b=2, 1); begin(1) = 0; go(1)
            begin(1) = NONE; go(3); begin(1) = NONE; change(0, 2, 1); begin(1) = 0
            """);
        s.of(22, "BEGIN");
        s.run("""
            turner(90); rhyme(4, 5); write(b=2, 1); crosser(0, 0, 0); begin(0) = 0; beats(1); begin(0) = 0; beats(1)
            begin(0) = 2; beats(1); begin(0) = 1; beats(1); begin(0) = 0; ofCrosser(0, 9) = 0; count(3) = 4
            """);
        s.run(EIGHT + "begin(7) = 0; begin(0) = 0");
        s.run("crosser(0, 0, 0); begin(0) = 0");
        s.of(22, "BEYOND");
        s.refuse("", "BEYOND", "begin(0)");
        s.refuse(RICH, "BEYOND", "begin(3)", "begin(-1)", "begin(8)", "begin(MIN)", "begin(MAX)");
        s.of(22, "STATE: he isn't SOUTH");
        s.refuse(RICH, "STATE", "begin(0)", "begin(1)");
        s.refuse(RICH + "change(2, 3, 2)", "STATE", "begin(2)");
        s.refuse(RICH + "change(2, 3, 3)", "STATE", "begin(2)");
        s.of(22, "NONE: by none");
        s.refuse(NO_JUMPS + "rhyme(4, 2)", "NONE", "begin(0)");
        s.refuse(RICH + "text(0); write(0, 1); rhyme(2, 2)", "NONE", "begin(2)");
    }

    private static void rhymes(Sentences s) {
        s.term("RHYMES (p as it is, 8 at most): all sets of beats DOWN");
        s.run("""
            rhyme(8, 3); rhymes(60, 0, 0, 0) = 256; rhymes(60, 0, 0, 1) = 0; rhyme(9, 3)
            rhymes(60, 0, 0, 0) = STATE; rhyme(1, 1); rhymes(60, 0, 0, 0) = 2
            """);
        // up, down, up: the fourth beat is free
        s.run(THREE + """
            rhymes(3, 1, 0, 0) = 2; rhymes(3, 1, 0, 1) = 2; rhyme(3, 0); rhymes(3, 1, 0, 0) = 1; rhyme(8, 0)
            rhymes(3, 1, 0, 0) = 32; rhymes(3, 1, 0, 1) = 2
            """);
        // with one beat it is always up, or always down: over when it stands, behind 50
        s.run(THREE + """
            rhyme(1, 0); rhymes(50, 1, 0, 0) = 0; rhymes(50, 0, 1, 0) = 2; rhymes(51, 1, 0, 0) = 2
            rhymes(51, 0, 1, 0) = 0; rhymes(51, 1, 0, 1) = 0
            """);
        // just those of both sets go; the second set is in the first one's way, or the other way round
        s.run(THREE + """
            rhymes(3, 1, 2, 0) = 2; rhymes(3, 2, 1, 0) = 0; rhymes(3, 2, 0, 0) = 2; go(0); rhymes(3, 2, 0, 0) = 2
            go(1); rhymes(3, 2, 0, 1) = 2; count(7) = 1; count(2) = 1
            """);
        s.run(EIGHT + """
            rhymes(3, 255, 0, 0) = 1; rhymes(3, 255, 0, 1) = 2; rhymes(3, 0, 255, 0) = 3; rhymes(3, 0, 255, 1) = 0
            rhymes(3, 15, 240, 0) = 0; rhymes(2, 0, 255, 0) = 4
            """);
        s.of(23, "RHYMES for n (0 to 60) BEATS: all of a set, none of another one: what 0 how many, 1 the least");
        s.run(THREE + """
            rhymes(0, 0, 0, 0) = 16; rhymes(0, 0, 7, 0) = 16; rhymes(0, 1, 0, 0) = 0; rhymes(60, 7, 0, 0) = 16
            rhymes(60, 7, 0, 1) = 0; rhymes(0, 0, 7, 1) = 0
            """);
        // one who is north now is so with all rhymes; one who is in goes on though he isn't told
        s.run(THREE + """
            change(1, 3, 2); rhymes(0, 2, 0, 0) = 16; rhymes(0, 2, 0, 1) = 0; rhymes(0, 0, 2, 0) = 0
            rhymes(60, 2, 5, 0) = 0
            """);
        s.run(THREE + """
            beats(2); rhymes(2, 0, 1, 0) = 12; rhymes(2, 0, 0, 0) = 16; rhymes(2, 1, 0, 0) = 4
            rhymes(2, 1, 0, 1) = 4
            """);
        s.of(23, "BEYOND: also one in both");
        s.refuse(RICH, "BEYOND", "rhymes(-1, 0, 0, 0)", "rhymes(61, 0, 0, 0)", "rhymes(MIN, 0, 0, 0)", "rhymes(MAX, 0, 0, 0)");
        s.refuse(RICH, "BEYOND", "rhymes(1, 8, 0, 0)", "rhymes(1, -1, 0, 0)", "rhymes(1, MIN, 0, 0)", "rhymes(1, MAX, 0, 0)",
            "rhymes(1, 0, 8, 0)", "rhymes(1, 0, -1, 0)", "rhymes(1, 0, MIN, 0)", "rhymes(1, 0, MAX, 0)");
        s.refuse(RICH, "BEYOND", "rhymes(1, 0, 0, -1)", "rhymes(1, 0, 0, 2)", "rhymes(1, 0, 0, MIN)", "rhymes(1, 0, 0, MAX)");
        s.refuse(RICH, "BEYOND", "rhymes(1, 1, 1, 0)", "rhymes(1, 3, 6, 0)", "rhymes(1, 7, 4, 1)", "rhymes(0, 7, 7, 0)");
        s.refuse("", "BEYOND", "rhymes(0, 1, 0, 0)", "rhymes(0, 0, 1, 0)");
        s.of(23, "STATE: p is above 8");
        s.refuse(RICH + "rhyme(9, 1)", "STATE", "rhymes(0, 0, 0, 0)", "rhymes(60, 4, 3, 1)");
        s.refuse(RICH + "rhyme(16, 1)", "STATE", "rhymes(0, 0, 0, 1)");
        s.of(23, "NONE: (what 1) there is none");
        s.refuse(RICH, "NONE", "rhymes(0, 1, 0, 1)", "rhymes(0, 7, 0, 1)", "rhymes(60, 3, 4, 1)");
        s.run(RICH + "rhymes(0, 1, 0, 0) = 0; told(2) = 0");
    }

    private static void most(Sentences s) {
        s.term("MOST: of all sets of CROSSERS who are SOUTH that with most who, were just they to GO, are all NORTH behind n BEATS; of several the least");
        s.run(THREE + """
            most(0) = 0; most(5) = 0; most(6) = 1; most(9) = 1; most(10) = 7; go(0); most(6) = 1; most(10) = 7
            """);
        s.run(THREE + """
            change(0, 3, 2); most(6) = 2; most(60) = 6; change(0, 3, 3); most(6) = 2; change(1, 3, 3); most(60) = 4
            change(2, 3, 3); most(60) = 0
            """);
        // of several the least: 1 or 2 at place 0 with 0 at place 1
        s.run("""
            turner(50); rhyme(2, 2); crosser(0, 0, 1); crosser(0, 0, 0); crosser(0, 0, 0); most(3) = 3; most(4) = 3
            most(5) = 7; change(1, 3, 3); most(3) = 5
            """);
        s.of(24, "MOST, for n (0 to 60): the set");
        s.run(EIGHT + """
            most(0) = 0; most(2) = 0; most(3) = 255; most(60) = 255; change(7, 2, 0); most(3) = 127; most(4) = 127
            most(5) = 255; change(0, 3, 3); most(3) = 254
            """);
        s.run("most(0) = 0; most(60) = 0; crosser(0, 0, 0); most(0) = 0; most(1) = 1");
        // one who is in, and isn't told to go, is in the others' way
        s.run(THREE + "go(1); beats(2); most(7) = 0; most(8) = 6");
        s.of(24, "BEYOND");
        s.refuse(RICH, "BEYOND", "most(-1)", "most(61)", "most(200)", "most(MIN)", "most(MAX)");
    }

    private static void relief(Sentences s) {
        s.term("RELIEF: the TURNER with most STRENGTH less TIRED; of several the least");
        s.run("""
            4 * turner(9); relief() = 0; beats(1); relief() = 1; relieve(1); beats(1); relief() = 0; count(5) = 1
            beats(1); relief() = 0; relieve(0); beats(1); relief() = 2
            """);
        s.run("turner(10); turner(9); relief() = 0; beats(1); relief() = 0; beats(1); relief() = 1");
        s.of(25, "RELIEF");
        s.run("turner(1); relief() = 0; turner(2); relief() = 1; turner(2); relief() = 1; turner(99); relief() = 3");
        s.run("turner(1); beats(1); relief() = 0; turner(1); relief() = 1; turner(1); relief() = 1");
        s.of(25, "NONE: there are no TURNERS");
        s.refuse("", "NONE", "relief()");
        s.refuse("crosser(0, 0, 0); go(1); image(); turner(5); restore()", "NONE", "relief()");
    }

    private static void stands(Sentences s) {
        s.term("STANDS: behind how many BEATS (0 to 200) the rope STANDS first");
        s.run("""
            stands() = 0; turner(1); stands() = 1; beats(1); stands() = 0; beats(1); stands() = 0; turner(99)
            stands() = 0; relieve(1); stands() = 99; beats(98); stands() = 1; beats(1); stands() = 0
            """);
        s.of(26, "STANDS");
        s.run("""
            4 * turner(7); relieve(3); beats(2); stands() = 5; relieve(2); stands() = 7; beats(1); relieve(3)
            stands() = 6; count(3) = 3
            """);
        // no TURNER has more than 99 to give: it is never later
        s.of(26, "NONE: not by 200");
        s.run("4 * turner(99); stands() = 99; relieve(3); stands() = 99; told(2) = 0");
    }

    private static void parts(Sentences s) {
        s.term("PARTS: behind how many (0 to 200) the WEAR of a PLACE is v or more first");
        // 22 jumps at beats 4, 8 .. 88
        s.run("""
            turner(99); crosser(52, 9, 0); write(9, 0); go(1); parts(0) = 0; parts(1) = 5; parts(2) = 9
            parts(22) = 89; over(0) = 90; parts(23) = NONE
            """);
        // place 0 alone, the last place alone; what is leapt over
        s.run("""
            splice(0, 5); parts(5) = 0; parts(6) = NONE; rope(8); splice(7, 999); parts(999) = 0; rope(2)
            parts(1) = NONE; splice(1, 1); parts(1) = 0
            """);
        s.run("""
            turner(50); rhyme(2, 2); crosser(49, 9, 0); go(1); parts(1) = 2; parts(9) = 2; parts(10) = 4
            parts(18) = 4; parts(19) = 6; parts(27) = 6; parts(28) = NONE
            """);
        s.run("""
            turner(50); rope(8); rhyme(2, 2); crosser(0, 9, 7); go(1); splice(7, 998); splice(0, 997)
            parts(998) = 0; parts(999) = 2
            """);
        s.of(27, "PARTS (v 0 to 999)");
        s.run(THREE + "parts(0) = 0; parts(1) = 5; parts(2) = 9; splice(3, 999); parts(999) = 0; parts(1) = 0");
        s.of(27, "BEYOND");
        s.refuse(RICH, "BEYOND", "parts(-1)", "parts(1000)", "parts(MIN)", "parts(MAX)");
        s.of(27, "NONE: not by 200");
        s.refuse(RICH, "NONE", "parts(999)", "parts(100)");
        s.run(THREE + "parts(3) = NONE; splice(2, 998); parts(999) = NONE; parts(998) = 0");
        s.refuse("", "NONE", "parts(1)");
    }

    private static void who(Sentences s) {
        s.term("WHO: a SHEET tells WEAR of PLACES (as many numbers as PLACES)");
        // each of eight wears a place of his own
        s.run(EIGHT + """
            sheet(0, 8, 8); who(0, 0) = 255; who(0, 1) = 255; who(0, 2) = 0; put(0, 7, 1); who(0, 1) = 0
            who(0, 2) = 128; who(0, 200) = 128; put(0, 7, 0); put(0, 0, 1); who(0, 2) = 1; put(0, 0, 2)
            who(0, 2) = 0
            """);
        s.run(EIGHT + """
            sheet(0, 8, 7); who(0, 0) = NONE; sheet(0, 8, 9); who(0, 0) = NONE; sheet(0, 8, 40); who(0, 0) = NONE
            sheet(0, 8, 8); splice(7, 1); who(0, 0) = 0; put(0, 7, 1); who(0, 0) = 255
            """);
        // only who is south now; just he goes, though others do now; one who is in goes on
        s.run(THREE + """
            sheet(0, 16, 4); put(0, 0, 1); who(0, 5) = 3; change(0, 3, 3); who(0, 5) = 2; change(1, 3, 2)
            who(0, 5) = 0; go(0); change(1, 3, 0); who(0, 5) = 2; count(7) = 0
            """);
        s.run(THREE + """
            beats(2); sheet(0, 16, 4); put(0, 0, 1); who(0, 3) = 0; put(0, 1, 1); who(0, 3) = 2; who(0, 2) = 0
            who(0, 6) = 2; who(0, 7) = 0
            """);
        s.run("""
            rope(2); crosser(0, 0, 0); sheet(0, 32, 2); who(0, 200) = 1; put(0, 1, 65536); who(0, 0) = 0
            sheet(0, 16, 2); put(0, 1, 65536); who(0, 0) = 1; splice(1, 999); put(0, 1, 999); who(0, 0) = 1
            """);
        s.of(28, "WHO, by a SHEET");
        s.run("""
            rope(2); crosser(0, 0, 0); sheet(3, 8, 2); who(3, 0) = 1; who(3, 200) = 1; put(3, 0, 127); who(3, 0) = 0
            splice(0, 127); who(3, 0) = 1; change(0, 3, 2); who(3, 0) = 0
            """);
        s.run("sheet(0, 8, 4); who(0, 0) = 0; who(0, 200) = 0");
        s.of(28, "BEYOND");
        s.refuse(RICH, "BEYOND", "who(-1, 0)", "who(4, 0)", "who(MIN, 0)", "who(MAX, 0)", "who(0, -1)", "who(0, 201)", "who(0, MIN)", "who(0, MAX)");
        s.of(28, "NONE: the SHEET is missing, has not as many numbers as there are PLACES");
        s.refuse(RICH, "NONE", "who(3, 0)", "who(1, 0)", "who(2, 200)");
        s.refuse(RICH + "sheet(0, 8, 4)", "NONE", "who(0, 0)");
        s.refuse(RICH + "sheet(0, 8, 6)", "NONE", "who(0, 0)");
        s.refuse(RICH + "sheet(0, 8, 0)", "NONE", "who(0, 0)");
        s.refuse(RICH + "sheet(0, 0, 5)", "NONE", "who(0, 0)");
    }

    private static void odds(Sentences s) {
        s.term("ODDS: that a CROSSER who GOES (all others as they do) is NORTH behind n BEATS");
        // down at beat 15 alone: from place i he is over behind 17 - i, from 15 behind 18
        String long16 = "turner(50); rhyme(16, 32768); crosser(0, 0, 0)\n";
        int[][] want = {{0, 0, 1}, {2, 0, 1}, {3, 1, 16}, {4, 1, 8}, {5, 3, 16}, {6, 1, 4}, {8, 3, 8}, {9, 7, 16}, {10, 1, 2}, {14, 3, 4}, {17, 15, 16}, {18, 1, 1}, {200, 1, 1}};
        for (int[] w : want) {
            String asked = "odds(0, " + w[0] + ", 0) = " + w[1] + "; odds(0, " + w[0] + ", 1) = " + w[2];
            s.run(long16 + asked);
            s.run(long16 + "beats(5); " + asked + "; count(3) = 5; count(7) = 0");
            s.run("beats(31); " + long16 + "go(1); " + asked);
        }
        s.run("""
            turner(50); rhyme(1, 0); crosser(0, 0, 0); odds(0, 50, 0) = 0; odds(0, 50, 1) = 1; odds(0, 51, 0) = 1
            odds(0, 51, 1) = 1
            """);
        // all others as they do: 0 is in his way, or doesn't go
        s.run("""
            turner(50); rhyme(2, 2); crosser(0, 0, 0); crosser(0, 0, 0); odds(1, 3, 0) = 1; odds(1, 3, 1) = 2; go(1)
            odds(1, 3, 0) = 0; odds(1, 5, 1) = 2; odds(1, 6, 1) = 1; odds(0, 3, 1) = 2; count(7) = 1
            """);
        s.of(29, "ODDS: part 0 above, 1 below the line");
        s.run(EIGHT + """
            odds(7, 2, 0) = 0; odds(7, 2, 1) = 1; odds(7, 3, 0) = 1; odds(7, 3, 1) = 2; odds(7, 4, 0) = 1
            odds(7, 4, 1) = 1; odds(0, 0, 0) = 0; odds(0, 200, 0) = 1
            """);
        s.of(29, "BEYOND");
        s.refuse("", "BEYOND", "odds(0, 0, 0)");
        s.refuse(RICH, "BEYOND", "odds(3, 0, 0)", "odds(-1, 0, 0)", "odds(MIN, 0, 0)", "odds(MAX, 0, 0)", "odds(2, -1, 0)", "odds(2, 201, 0)",
            "odds(2, MIN, 0)", "odds(2, MAX, 0)", "odds(2, 0, -1)", "odds(2, 0, 2)", "odds(2, 0, MIN)", "odds(2, 0, MAX)");
        s.of(29, "STATE: he isn't SOUTH");
        s.refuse(RICH, "STATE", "odds(0, 0, 0)", "odds(1, 200, 1)");
        s.refuse(RICH + "change(2, 3, 2)", "STATE", "odds(2, 9, 0)");
        s.refuse(RICH + "change(2, 3, 3)", "STATE", "odds(2, 9, 1)");
    }
}
