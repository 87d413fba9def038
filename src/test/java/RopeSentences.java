/** The rope, its rhyme, who turns it: of the terms, and promises 1 to 6, 12, 13, 19. */
final class RopeSentences {
    private static final String RICH = SentencesTest.RICH;

    private RopeSentences() {
    }

    static void ask(Sentences s) {
        ropeAndRhyme(s);
        beat(s);
        turners(s);
        newObject(s);
        rope(s);
        rhyme(s);
        turner(s);
        ofTurner(s);
        relieve(s);
        spliceAndWear(s);
    }

    private static void ropeAndRhyme(Sentences s) {
        s.term("THE ROPE has PLACES 0 .. n - 1 (n 2 to 8; 4 at first)");
        s.run("""
            count(0) = 4; wear(0) = 0; wear(1) = 0; wear(2) = 0; wear(3) = 0; wear(4) = BEYOND; wear(-1) = BEYOND
            rope(1) = BEYOND
            rope(2) = 4
            wear(1) = 0; wear(2) = BEYOND; splice(1, 5) = 0; splice(2, 5) = BEYOND; crosser(0, 0, 2) = BEYOND
            rope(8) = 2
            wear(7) = 0; wear(8) = BEYOND; crosser(0, 0, 8) = BEYOND
            splice(7, 999) = 0; splice(7, 1000) = BEYOND; splice(7, -1) = BEYOND; splice(7, 0) = 999
            rope(9) = BEYOND
            crosser(0, 0, 7) = 0; change(0, 2, 8) = BEYOND; change(0, 2, -1) = BEYOND; change(0, 2, 0) = 7
            """);
        s.term("THE RHYME: a row of p BEATS (p 1 to 16; 4 at first)");
        s.run("""
            count(1) = 4; count(2) = 1; rhyme(0, 0) = BEYOND; rhyme(1, 1) = 4; rhyme(16, 65535) = 1
            rhyme(17, 0) = BEYOND; count(1) = 16
            """);
        // beat 0 alone at first
        s.run("""
            turner(50); crosser(0, 0, 0); go(1)
            beats(1); ofCrosser(0, 5) = 0
            beats(1); ofCrosser(0, 5) = 1; ofCrosser(0, 6) = 1
            beats(2); ofCrosser(0, 6) = 1
            beats(1); ofCrosser(0, 6) = 0; ofCrosser(0, 5) = 1
            beats(1) = 1
            """);
        // the last beat of the longest rhyme
        s.run("""
            turner(50); crosser(0, 0, 0); go(1); rhyme(16, 32768)
            beats(1); ofCrosser(0, 5) = 1; beats(14); ofCrosser(0, 6) = 1; wear(0) = 0
            beats(1); ofCrosser(0, 6) = 0; wear(0) = 1; ofCrosser(0, 5) = 1
            beats(1) = 1
            """);
        // the shortest: down at each beat, down at none
        s.run("""
            turner(3); crosser(0, 0, 0); go(1); rhyme(1, 1); then(3, 0, 0) = 0; over(0) = 4; rhyme(1, 0) = 1
            then(1, 0, 0) = 1; then(3, 0, 1) = 1; over(0) = 4
            """);
    }

    private static void beat(Sentences s) {
        s.term("BEAT (0 to 99999; 0 at first): now it is the BEAT's rest by p");
        s.run("count(3) = 0; beats(1) = 0; count(3) = 1");
        s.run(SentencesTest.LAST_BEAT + "beats(1) = STATE; count(3) = 99999");
        // at BEAT 7 whether it is down shows in whether he runs in
        String seven = "beats(7); turner(50); crosser(0, 0, 0); go(1)\n";
        s.run(seven + "rhyme(3, 2); then(1, 0, 0) = 0; rhyme(3, 5); then(1, 0, 0) = 1");
        s.run(seven + "rhyme(4, 8); then(1, 0, 0) = 0; rhyme(4, 7); then(1, 0, 0) = 1");
        s.run(seven + "rhyme(7, 1); then(1, 0, 0) = 0; rhyme(7, 126); then(1, 0, 0) = 1");
        s.run(seven + "rhyme(8, 128); then(1, 0, 0) = 0; rhyme(8, 127); then(1, 0, 0) = 1");
        s.run(seven + "rhyme(16, 128); then(1, 0, 0) = 0; rhyme(16, 65407); then(1, 0, 0) = 1");
        // from the last place of the rhyme on to place 0
        s.run(seven + "rhyme(8, 1); then(1, 0, 0) = 1; then(1, 0, 1) = 1; then(2, 0, 1) = 0; over(0) = 3");
    }

    private static void turners(Sentences s) {
        s.term("TURNERS 0, 1, .. (at most 4): STRENGTH (1 to 99), TIRED (0 to 99; 0 at first)");
        s.run("""
            count(4) = 0; turner(0) = BEYOND; turner(100) = BEYOND
            turner(1) = 0; turner(99) = 1; turner(98) = 2; turner(2) = 3; turner(1) = FULL; count(4) = 4
            ofTurner(0, 1) = 0; ofTurner(1, 1) = 0; ofTurner(2, 1) = 0; ofTurner(3, 1) = 0; ofTurner(4, 1) = BEYOND
            relieve(1); beats(98); ofTurner(1, 1) = 98; beats(1); ofTurner(1, 1) = 99; beats(200); ofTurner(1, 1) = 99
            ofTurner(0, 1) = 0; ofTurner(2, 1) = 0; ofTurner(3, 1) = 0
            """);
        s.term("Who TURNS is one of them (0 at first); the rope STANDS, if there are none");
        s.run("""
            count(5) = 0; stands() = 0; crosser(0, 0, 0); go(1); over(0) = 1
            turner(2) = 0; ofTurner(0, 2) = 1; turner(5) = 1; ofTurner(1, 2) = 0; stands() = 2; rhyme(1, 1)
            beats(1) = 0; stands() = 1
            beats(1) = 0; stands() = 0; over(0) = 1
            relieve(1) = 0; stands() = 5; over(0) = 6
            relieve(0) = 1; stands() = 0
            beats(1) = 1
            """);
    }

    private static void newObject(Sentences s) {
        s.of(1, "All as at first; four PLACES, no TURNERS, CROSSERS");
        s.run("""
            count(0) = 4; count(1) = 4; count(2) = 1; count(3) = 0; count(4) = 0; count(5) = 0; count(6) = 0
            count(7) = 0; count(8) = 0; count(9) = 0; count(10) = 0; count(11) = 0; count(12) = 0; count(13) = 1
            wear(0) = 0; wear(3) = 0; wear(4) = BEYOND
            """);
        s.run("""
            ofTurner(0, 0) = BEYOND; relieve(0) = BEYOND; ofCrosser(0, 0) = BEYOND; go(1) = BEYOND; go(0) = 0
            then(0, 0, 0) = BEYOND
            """);
        s.run("""
            judge(0) = NONE; judge(1) = NONE; judge(2) = NONE; judge(3) = NONE; trace(0) = NONE; restore() = NONE
            relief() = NONE
            """);
        s.run("""
            law(0, 9, 19, 9) = 1; law(0, 9, 20, 9) = 2; law(1, 0, 99, 9) = 1; law(1, 0, 100, 9) = 0; check() = 0
            stands() = 0; parts(0) = 0; parts(1) = NONE
            """);
        s.run("""
            told(1) = 0; told(2) = 0; told(3) = 0; told(4) = 0; told(5) = 0; most(60) = 0; rhymes(60, 0, 0, 0) = 16
            text(0) = -10; image() = 1; loose(1) = 0; seed(0) = 1
            """);
    }

    private static void rope(Sentences s) {
        s.of(2, "THE ROPE has n PLACES, without WEAR");
        s.run("""
            rope(2) = 4; count(0) = 2; splice(0, 7); splice(1, 999)
            rope(2) = 2; wear(0) = 0; wear(1) = 0; splice(1, 3)
            rope(8) = 2; count(0) = 8; wear(1) = 0; splice(0, 8); splice(7, 9)
            rope(7) = 8; wear(0) = 0; wear(6) = 0; wear(7) = BEYOND
            rope(8) = 7; wear(7) = 0
            """);
        s.run("""
            turner(5); rhyme(3, 2); seed(9); beats(2); rope(3) = 4; count(4) = 1; ofTurner(0, 1) = 2; count(1) = 3
            count(2) = 2; count(3) = 2; count(13) = 9
            """);
        s.of(2, "BEYOND");
        s.refuse("splice(0, 5); splice(3, 6); turner(9); sheet(1, 8, 4); image(); splice(3, 7)", "BEYOND",
            "rope(1)", "rope(9)", "rope(0)", "rope(-1)", "rope(10)", "rope(MIN)", "rope(MAX)");
        s.of(2, "STATE: there are CROSSERS");
        s.refuse(RICH, "STATE", "rope(5)", "rope(2)", "rope(8)");
        s.run("crosser(0, 0, 0); rope(4) = STATE; change(0, 3, 2); rope(4) = STATE");
        s.run("image(); crosser(0, 0, 0); rope(4) = STATE; restore() = 0; rope(5) = 4");
    }

    private static void rhyme(Sentences s) {
        s.of(3, "THE RHYME has p BEATS, DOWN at those of a set");
        s.run("""
            rhyme(1, 0) = 4; count(2) = 0; rhyme(16, 65535) = 1; count(2) = 65535; rhyme(16, 0) = 16
            rhyme(8, 255) = 16; count(1) = 8; count(2) = 255
            """);
        s.run(RICH + """
            rhyme(3, 1) = 6; count(3) = 2; ofCrosser(0, 5) = 1; ofCrosser(0, 6) = 5; ofTurner(1, 1) = 2
            count(7) = 3
            """);
        s.of(3, "BEYOND: also beats that it hasn't");
        s.refuse(RICH, "BEYOND", "rhyme(0, 0)", "rhyme(-1, 0)", "rhyme(17, 0)", "rhyme(32, 1)", "rhyme(33, 0)",
            "rhyme(MIN, 0)", "rhyme(MAX, 0)");
        s.refuse(RICH, "BEYOND", "rhyme(1, 2)", "rhyme(1, -1)", "rhyme(4, 16)", "rhyme(6, 64)", "rhyme(8, 256)",
            "rhyme(15, 32768)", "rhyme(16, 65536)", "rhyme(16, -1)", "rhyme(16, MIN)", "rhyme(16, MAX)");
    }

    private static void turner(Sentences s) {
        s.of(4, "A TURNER of a STRENGTH: the number");
        s.run("""
            turner(1) = 0; turner(99) = 1; turner(50) = 2; turner(51) = 3; count(4) = 4; count(5) = 0
            ofTurner(0, 0) = 1; ofTurner(1, 0) = 99; ofTurner(2, 0) = 50; ofTurner(3, 0) = 51; ofTurner(3, 2) = 0
            """);
        s.of(4, "BEYOND");
        s.refuse(RICH, "BEYOND", "turner(0)", "turner(-1)", "turner(100)", "turner(MIN)", "turner(MAX)");
        s.of(4, "FULL");
        s.run("3 * turner(9); turner(8) = 3; turner(1) = FULL; turner(99) = FULL; count(4) = 4; ofTurner(3, 0) = 8");
        s.refuse(RICH + "turner(3); turner(4)", "FULL", "turner(5)");
    }

    private static void ofTurner(Sentences s) {
        s.of(5, "Of a TURNER: 0 STRENGTH, 1 TIRED, 2 whether that one TURNS");
        s.run("""
            turner(20); turner(30); turner(40); turner(99); relieve(3); beats(7)
            ofTurner(0, 0) = 20; ofTurner(0, 1) = 0; ofTurner(0, 2) = 0
            ofTurner(3, 0) = 99; ofTurner(3, 1) = 7; ofTurner(3, 2) = 1
            """);
        s.of(5, "BEYOND");
        s.refuse("", "BEYOND", "ofTurner(0, 0)", "ofTurner(0, 2)");
        s.refuse(RICH, "BEYOND", "ofTurner(2, 0)", "ofTurner(3, 1)", "ofTurner(4, 2)", "ofTurner(-1, 0)", "ofTurner(MIN, 0)",
            "ofTurner(MAX, 0)", "ofTurner(0, 3)", "ofTurner(1, -1)", "ofTurner(0, MIN)", "ofTurner(0, MAX)");
    }

    private static void relieve(Sentences s) {
        s.of(6, "A TURNER TURNS from now on: who did");
        s.run("4 * turner(9); relieve(3) = 0; count(5) = 3; relieve(3) = 3; relieve(0) = 3; count(5) = 0");
        // one who is as tired as strong may be the one: then the rope stands
        s.run("turner(1); turner(9); beats(1); relieve(1) = 0; stands() = 9; relieve(0) = 1; stands() = 0");
        s.of(6, "BEYOND");
        s.refuse("", "BEYOND", "relieve(0)");
        s.refuse(RICH, "BEYOND", "relieve(2)", "relieve(-1)", "relieve(3)", "relieve(4)", "relieve(MIN)", "relieve(MAX)");
        s.refuse("4 * turner(9)", "BEYOND", "relieve(4)");
    }

    private static void spliceAndWear(Sentences s) {
        s.of(13, "WEAR of a PLACE becomes v: what it was");
        s.run("""
            splice(0, 999) = 0; splice(0, 0) = 999; splice(3, 1) = 0; splice(3, 998) = 1; wear(0) = 0; wear(1) = 0
            wear(3) = 998
            """);
        s.of(13, "BEYOND");
        s.refuse(RICH, "BEYOND", "splice(-1, 0)", "splice(5, 0)", "splice(7, 0)", "splice(8, 0)", "splice(MIN, 0)", "splice(MAX, 0)",
            "splice(0, -1)", "splice(3, 1000)", "splice(3, MIN)", "splice(3, MAX)");
        s.of(19, "WEAR of a PLACE");
        s.run("""
            rope(8); splice(0, 3); splice(7, 999); wear(0) = 3; wear(1) = 0; wear(7) = 999; rope(2); wear(0) = 0
            wear(1) = 0
            """);
        s.of(19, "BEYOND");
        s.refuse(RICH, "BEYOND", "wear(-1)", "wear(5)", "wear(8)", "wear(MIN)", "wear(MAX)");
        s.refuse("rope(2)", "BEYOND", "wear(2)");
        s.refuse("rope(8)", "BEYOND", "wear(8)");
    }
}
