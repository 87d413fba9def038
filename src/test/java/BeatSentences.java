/** A beat and beats by draws: of the terms, and promises 17, 18, 30. */
final class BeatSentences {
    private static final String RICH = SentencesTest.RICH;
    private static final String LAST_BEAT = SentencesTest.LAST_BEAT;
    /** Up and down in turn, the first beat up: he runs in at 0, jumps at 1, is out at 2. */
    private static final String IN_TURN = "turner(50); rhyme(2, 2)\n";

    private BeatSentences() {
    }

    static void ask(Sentences s) {
        standing(s);
        turners(s);
        byNumbers(s);
        jumping(s);
        runningIn(s);
        draws(s);
        beats(s);
        loose(s);
        seed(s);
    }

    private static void standing(Sentences s) {
        s.term("A BEAT: if the rope STANDS, all who are SOUTH and GO, and all who are IN, are NORTH (nobody jumps)");
        // 0 and 4 are in, 1 waits for 0's place, 2 doesn't go, 3 is held, 5 is north; then 4 goes no more
        s.run("""
            turner(2); crosser(0, 0, 0); crosser(0, 0, 0); crosser(0, 0, 1); crosser(0, 0, 2); crosser(21, 0, 3); crosser(0, 0, 1)
            change(3, 3, 3); change(5, 3, 2); go(59); beats(2) = 1; count(8) = 32; count(9) = 8; ofCrosser(0, 5) = 1; ofCrosser(1, 5) = 0; ofCrosser(4, 5) = 1
            go(43); rhyme(1, 1); stands() = 0
            beats(1) = 4; count(8) = 51; count(9) = 8; ofCrosser(2, 5) = 0; ofCrosser(3, 5) = 3
            wear(0) = 0; wear(1) = 0; wear(2) = 0; wear(3) = 0; ofCrosser(0, 6) = 1; ofCrosser(1, 6) = 0; ofCrosser(4, 6) = 2
            count(3) = 3; ofTurner(0, 1) = 2; go(4); beats(1) = 5; ofCrosser(2, 6) = 0
            """);
        s.run("""
            8 * crosser(0, 0, 0); go(254); beats(1) = 7; count(8) = 254; go(1); beats(1) = 8; count(8) = 255
            count(3) = 2
            """);
        s.run("8 * crosser(0, 0, 0); go(255); beats(1) = 8; count(8) = 255; wear(0) = 0");
        // one beat ahead it doesn't stand yet
        s.run("turner(1); rhyme(1, 0); crosser(0, 0, 0); go(1); beats(1) = 0; ofCrosser(0, 5) = 1; beats(1) = 1");
    }

    private static void turners(Sentences s) {
        s.term("Else the one who TURNS is 1 more TIRED (99 at most), all others 1 less (0 at least)");
        s.run("""
            turner(99); turner(50); turner(50); turner(50); relieve(3); beats(3); ofTurner(3, 1) = 3; ofTurner(0, 1) = 0; ofTurner(2, 1) = 0
            relieve(0); beats(1); ofTurner(0, 1) = 1; ofTurner(3, 1) = 2
            relieve(2); beats(1); ofTurner(0, 1) = 0; ofTurner(1, 1) = 0; ofTurner(2, 1) = 1; ofTurner(3, 1) = 1
            relieve(0); beats(1); ofTurner(3, 1) = 0; ofTurner(2, 1) = 0; beats(1); ofTurner(3, 1) = 0; ofTurner(1, 1) = 0
            beats(96); ofTurner(0, 1) = 98; stands() = 1; beats(1); ofTurner(0, 1) = 99; stands() = 0; beats(1); ofTurner(0, 1) = 99
            """);
        // while it stands nobody is less tired
        s.run("""
            turner(5); turner(1); beats(3); relieve(1); beats(1); ofTurner(0, 1) = 2; ofTurner(1, 1) = 1; beats(200)
            ofTurner(0, 1) = 2; ofTurner(1, 1) = 1
            """);
    }

    private static void byNumbers(Sentences s) {
        // 1 runs in at the beat at which 0 is out; 0 only at the next that is up
        String two = IN_TURN + "crosser(0, 0, 0); crosser(0, 0, 0)\n";
        s.run(two + "go(3); then(3, 0, 0) = 2; then(3, 1, 0) = 1; then(2, 1, 0) = 0; over(0) = 3; over(1) = 5");
        s.run(two + """
            go(2); beats(1); go(3); beats(2) = 1; ofCrosser(1, 5) = 2; ofCrosser(0, 5) = 0; beats(1)
            ofCrosser(0, 5) = 0; beats(1); ofCrosser(0, 5) = 1
            """);
        String eight = IN_TURN + "8 * crosser(0, 0, 0)\n";
        s.run(eight + "go(129); then(3, 0, 0) = 2; then(3, 7, 0) = 1; then(2, 7, 0) = 0");
        s.run(eight + """
            go(128); beats(1); go(129); beats(2) = 1; ofCrosser(7, 5) = 2; ofCrosser(0, 5) = 0; beats(2)
            ofCrosser(0, 5) = 1
            """);
        s.run(eight + "go(255); over(0) = 3; over(1) = 5; over(6) = 15; over(7) = 17");
        // both in at one place: the lower one wears it first
        String both = "turner(9); crosser(49, 0, 0); crosser(0, 0, 1); go(3); beats(2); change(1, 2, 0)\n";
        s.run(both + """
            splice(0, 90); beats(3) = 0; ofCrosser(1, 5) = 1; ofCrosser(1, 6) = 0; wear(0) = 100
            ofCrosser(0, 6) = 2
            """);
        s.run(both + """
            splice(0, 91); beats(3) = 0; ofCrosser(0, 5) = 1; ofCrosser(0, 6) = 2; ofCrosser(1, 5) = 3
            wear(0) = 100
            """);
    }

    private static void jumping(Sentences s) {
        // JUMPS are 0 at least, though it is down thrice: he wears it each time
        s.run("""
            turner(50); rhyme(4, 14); crosser(0, 0, 0); go(1); beats(1); ofCrosser(0, 6) = 1; beats(1)
            ofCrosser(0, 6) = 0; beats(1); ofCrosser(0, 6) = 0; beats(1); ofCrosser(0, 6) = 0; ofCrosser(0, 5) = 1
            wear(0) = 3; beats(1) = 1
            """);
        s.run(IN_TURN + """
            rhyme(4, 8); crosser(0, 0, 0); go(1); then(3, 0, 0) = 1; then(3, 0, 1) = 1; then(4, 0, 1) = 0
            then(4, 0, 0) = 1; over(0) = 5
            """);
        s.run(IN_TURN + """
            crosser(21, 0, 0); go(1); then(2, 0, 1) = 1; then(3, 0, 0) = 1; then(3, 0, 1) = 1; then(4, 0, 1) = 0
            over(0) = 5
            """);
        // WEAR is held
        s.run("""
            turner(50); rhyme(4, 14); crosser(0, 9, 2); splice(2, 997); go(1); beats(2); wear(2) = 998; beats(1)
            wear(2) = 999; beats(1); wear(2) = 999; ofCrosser(0, 5) = 1; beats(1) = 1
            """);
        String cart = IN_TURN + "crosser(20, 9, 2); change(0, 1, 99); go(1)\n";
        s.run(cart + "splice(2, 988); beats(2); wear(2) = 998");
        s.run(cart + "splice(2, 989); beats(2); wear(2) = 999");
        s.run(cart + "splice(2, 990); beats(2); wear(2) = 999; wear(1) = 0; wear(3) = 0");
        // who trips keeps his JUMPS, wears nothing, and is held for good
        s.run(IN_TURN + """
            crosser(21, 0, 3); splice(3, 99); go(1); beats(2); wear(3) = 100; ofCrosser(0, 6) = 1; beats(2) = 0
            ofCrosser(0, 5) = 3; ofCrosser(0, 6) = 1; wear(3) = 100; splice(3, 0); beats(100) = 0; stands() = 0
            ofCrosser(0, 5) = 3; count(9) = 1
            """);
        s.run(IN_TURN + """
            crosser(0, 0, 0); splice(0, 100); go(1); beats(2) = 0; ofCrosser(0, 5) = 3; ofCrosser(0, 6) = 1
            wear(0) = 100
            """);
        s.run(IN_TURN + "crosser(0, 0, 0); go(1); beats(1); go(0); beats(1); wear(0) = 1; beats(1) = 1");
    }

    private static void runningIn(Sentences s) {
        s.term("One who is SOUTH and GOES, if it isn't DOWN and nobody is IN at his PLACE, is IN, JUMPS being what he NEEDS");
        s.run(IN_TURN + """
            rhyme(2, 1); crosser(22, 0, 0); go(1); beats(1); ofCrosser(0, 5) = 0; ofCrosser(0, 6) = 0; beats(1)
            ofCrosser(0, 5) = 1; ofCrosser(0, 6) = 3; change(0, 1, 99); write(9, 0); ofCrosser(0, 7) = 11
            ofCrosser(0, 6) = 3
            """);
        s.run(IN_TURN + """
            crosser(0, 0, 0); beats(1); ofCrosser(0, 5) = 0; go(1); beats(1); ofCrosser(0, 5) = 0; beats(1)
            ofCrosser(0, 5) = 1
            """);
        // each at a place of his own, all places and all crossers
        s.run(IN_TURN + """
            rope(8); crosser(0, 0, 0); crosser(0, 0, 1); crosser(0, 0, 2); crosser(0, 0, 3); crosser(0, 0, 4)
            crosser(0, 0, 5); crosser(0, 0, 6); crosser(0, 0, 7); go(255); beats(1) = 0; ofCrosser(0, 5) = 1
            ofCrosser(1, 5) = 1; ofCrosser(6, 5) = 1; ofCrosser(7, 5) = 1; beats(1) = 0; wear(0) = 1; wear(7) = 1
            beats(1) = 8; count(8) = 255
            """);
        s.run(IN_TURN + """
            8 * crosser(0, 0, 3); go(255); beats(1); ofCrosser(0, 5) = 1; ofCrosser(1, 5) = 0; ofCrosser(7, 5) = 0
            beats(2) = 1; ofCrosser(1, 5) = 1; ofCrosser(2, 5) = 0
            """);
        // one who is held, or north, at the place is in nobody's way; nor does he run in himself
        s.run(IN_TURN + """
            crosser(0, 0, 0); crosser(0, 0, 0); crosser(0, 0, 0); change(0, 3, 3); change(1, 3, 2); go(7)
            beats(1) = 1; ofCrosser(0, 5) = 3; ofCrosser(1, 5) = 2; ofCrosser(2, 5) = 1
            """);
        // by where one is now, not by where he ran in
        s.run(IN_TURN + """
            crosser(21, 0, 0); crosser(0, 0, 0); go(3); beats(1); change(0, 2, 1); beats(2); ofCrosser(0, 5) = 1
            ofCrosser(1, 5) = 1; wear(0) = 0; wear(1) = 1
            """);
        s.term("BEAT is 1 more");
        s.run("""
            count(3) = 0; beats(1); count(3) = 1; turner(9); beats(1); count(3) = 2; beats(200); count(3) = 202
            loose(40); count(3) = 242
            """);
    }

    private static void draws(Sentences s) {
        s.term("BEATS by draws: z is told (1 at first); each makes it z * 1103515245 + 12345 (an int), and gives z >>> 8");
        s.run("""
            count(13) = 1; crosser(0, 0, 0); loose(1); count(13) = 1103527590; loose(1); count(13) = -1770082073
            loose(1); count(13) = 662824084; loose(1); count(13) = -999580867
            """);
        s.run("""
            crosser(0, 0, 0); seed(0) = 1; loose(1); count(13) = 12345; loose(1); count(13) = -740551042; seed(1)
            loose(4); count(13) = -999580867
            """);
        s.run("""
            crosser(0, 0, 0); seed(-1); loose(1); count(13) = -1103502900; seed(2147483647); loose(1)
            count(13) = 1043980748; seed(MIN); loose(1); count(13) = -2147471303
            """);
        // z below 0 gives a number above 0
        s.run("turner(50); 8 * crosser(0, 0, 0); seed(-1); loose(1); count(7) = 2; go(0); loose(1); count(7) = 16");
        s.run("""
            turner(50); 7 * crosser(0, 0, 0); seed(MIN); loose(1); count(7) = 8; go(0); loose(1); count(7) = 16
            go(0); loose(1); count(7) = 1
            """);
        s.term("Each: if there are CROSSERS, a draw: the one that is its rest by how many there are GOES, if he didn't, else doesn't any more; then a BEAT");
        s.run("""
            loose(40) = 0; count(13) = 1; count(3) = 40; count(7) = 0; crosser(0, 0, 0); loose(1) = 1
            count(13) = 1103527590; count(7) = 1
            """);
        s.run("""
            turner(50); crosser(0, 0, 0); loose(1); count(7) = 1; loose(1); count(7) = 0; loose(1); count(7) = 1
            loose(2); count(7) = 1
            """);
        // by 2 to 8 crossers, with z 1: the rests are 0 2 2 4 2 5 6
        int[] first = {1, 1, 4, 4, 16, 4, 32, 64};
        for (int n = 1; n <= 8; n++) {
            s.run("turner(50); " + n + " * crosser(0, 0, 0); loose(1) = 0; count(7) = " + first[n - 1] + "; go(0); go(" + first[n - 1] + "); seed(1); loose(1); count(7) = 0");
        }
        // the draw comes first: he is over at the same beat, and stays so when he goes no more
        s.run("crosser(0, 0, 0); loose(1) = 1; loose(1) = 1; count(7) = 0; ofCrosser(0, 5) = 2");
        s.run("crosser(0, 0, 0); go(1); loose(1) = 0; count(7) = 0; loose(1) = 1");
        // whoever he is: held, north
        s.run("crosser(0, 0, 0); change(0, 3, 3); loose(1) = 0; count(7) = 1; ofCrosser(0, 5) = 3");
    }

    private static void beats(Sentences s) {
        s.of(17, "n (1 to 200) BEATS: how many CROSSERS are NORTH");
        s.run(SentencesTest.THREE + """
            beats(1) = 0; beats(4) = 0; beats(1) = 1; beats(3) = 1; beats(1) = 3; beats(200) = 3; count(3) = 210
            """);
        s.run("8 * crosser(0, 0, 0); beats(1) = 0; beats(200) = 0; go(255); beats(200) = 8; count(3) = 401");
        s.of(17, "BEYOND");
        s.refuse(RICH, "BEYOND", "beats(0)", "beats(-1)", "beats(201)", "beats(MIN)", "beats(MAX)");
        s.of(17, "STATE: BEAT would be above 99999");
        s.run("crosser(0, 0, 0); 499 * beats(200); beats(200) = STATE; beats(199) = 0; count(3) = 99999");
        s.run("crosser(0, 0, 0); 499 * beats(200); beats(198); beats(2) = STATE; beats(1) = 0; count(3) = 99999");
        s.refuse(LAST_BEAT, "STATE", "beats(1)", "beats(2)", "beats(200)");
    }

    private static void loose(Sentences s) {
        s.of(18, "n (1 to 40) BEATS by draws: likewise");
        s.run("""
            8 * crosser(0, 0, 0); loose(1) = 1; count(8) = 64; loose(1) = 2; count(8) = 65; loose(1) = 3
            count(8) = 81; loose(40) = 8; count(3) = 43
            """);
        s.of(18, "BEYOND");
        s.refuse(RICH, "BEYOND", "loose(0)", "loose(-1)", "loose(41)", "loose(200)", "loose(MIN)", "loose(MAX)");
        s.of(18, "STATE: BEAT would be above 99999");
        s.run("crosser(0, 0, 0); 499 * beats(200); beats(160); loose(40) = STATE; loose(39) = 1; count(3) = 99999");
        s.refuse(LAST_BEAT, "STATE", "loose(1)", "loose(40)");
    }

    private static void seed(Sentences s) {
        s.of(30, "z becomes v: what it was (any number)");
        s.run("""
            seed(MIN) = 1; seed(MAX) = -2147483648; seed(0) = 2147483647; seed(-1) = 0; seed(-1000000001) = -1
            seed(-1000000005) = -1000000001; count(13) = -1000000005; told(1) = 0; told(5) = 0
            """);
    }
}
