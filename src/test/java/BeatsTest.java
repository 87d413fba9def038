/** Promises 17, 18, 30: beats, beats by draws, the seed. */
public final class BeatsTest {
    private static final Due due = new Due("BeatsTest");

    public static void main(String[] args) {
        ordinaryBeats();
        lowerNumbersComeFirst();
        trips();
        wearIsHeld();
        ropeThatStands();
        edgesOfBeats();
        lastBeat();
        draws();
        drawsWithoutCrossers();
        due.end();
    }

    private static RopeBorder three() {
        RopeBorder x = new RopeBorder();
        x.turner(50);
        x.crosser(0, 0, 0);
        x.crosser(0, 0, 0);
        x.crosser(21, 0, 1);
        x.go(7);
        return x;
    }

    private static void at(RopeBorder x, int crosser, int state, int jumps) {
        String of = "17: behind " + x.count(3) + " beats, of crosser " + crosser;
        due.is(of + " STATE", x.ofCrosser(crosser, 5), state);
        due.is(of + " JUMPS", x.ofCrosser(crosser, 6), jumps);
    }

    private static void ordinaryBeats() {
        RopeBorder x = three();
        // STATE and JUMPS of crossers 0, 1, 2 and WEAR of places 0, 1 behind each beat
        int[][] want = {
            {0, 0, 0, 0, 0, 0, 0, 0}, {1, 1, 0, 0, 1, 2, 0, 0}, {1, 1, 0, 0, 1, 2, 0, 0},
            {1, 1, 0, 0, 1, 2, 0, 0}, {1, 0, 0, 0, 1, 1, 1, 1}, {2, 0, 1, 1, 1, 1, 1, 1},
            {2, 0, 1, 1, 1, 1, 1, 1}, {2, 0, 1, 1, 1, 1, 1, 1}, {2, 0, 1, 0, 1, 0, 2, 2},
            {2, 0, 2, 0, 2, 0, 2, 2}, {2, 0, 2, 0, 2, 0, 2, 2}
        };
        for (int i = 0; i < want.length; i++) {
            int north = (want[i][0] / 2) + (want[i][2] / 2) + (want[i][4] / 2);
            due.is("17: beats(1), " + i, x.beats(1), north);
            for (int crosser = 0; crosser < 3; crosser++) {
                at(x, crosser, want[i][2 * crosser], want[i][2 * crosser + 1]);
            }
            due.is("17: wear(0), " + i, x.wear(0), want[i][6]);
            due.is("17: wear(1), " + i, x.wear(1), want[i][7]);
            due.is("17: TIRED, " + i, x.ofTurner(0, 1), i + 1);
        }
        due.is("17: BEAT", x.count(3), 11);
        due.is("17: they still GO", x.count(7), 7);
        due.is("17: all at once", three().beats(10), 3);
    }

    private static void lowerNumbersComeFirst() {
        RopeBorder x = three();
        x.go(2);
        x.beats(5);
        x.go(3);
        x.beats(1);
        at(x, 0, 0, 0);
        at(x, 1, 2, 0);
        x.beats(1);
        at(x, 0, 1, 1);
        RopeBorder y = new RopeBorder();
        y.turner(9);
        y.crosser(49, 0, 0);
        y.crosser(0, 0, 1);
        y.go(3);
        y.beats(2);
        y.change(1, 2, 0);
        y.splice(0, 95);
        y.beats(3);
        at(y, 0, 1, 2);
        at(y, 1, 3, 1);
        due.is("17: wear by the first alone", y.wear(0), 104);
    }

    private static void trips() {
        RopeBorder x = new RopeBorder();
        x.turner(50);
        x.crosser(0, 0, 0);
        x.crosser(21, 1, 1);
        x.splice(0, 100);
        x.splice(1, 199);
        x.go(3);
        due.is("17: beats(9)", x.beats(9), 0);
        at(x, 0, 3, 1);
        at(x, 1, 3, 1);
        due.is("17: who trips doesn't wear", x.wear(0), 100);
        due.is("17: who jumps first, does", x.wear(1), 200);
    }

    private static void wearIsHeld() {
        RopeBorder x = new RopeBorder();
        x.turner(50);
        x.crosser(49, 9, 2);
        x.splice(2, 998);
        x.go(1);
        x.beats(5);
        due.is("17: wear(2)", x.wear(2), 999);
        at(x, 0, 1, 2);
        RopeBorder y = new RopeBorder();
        y.turner(50);
        y.rhyme(3, 6);
        y.crosser(5, 0, 0);
        y.go(1);
        y.beats(1);
        at(y, 0, 1, 1);
        y.beats(2);
        at(y, 0, 1, 0);
        due.is("17: he jumps with no JUMPS left, too", y.wear(0), 2);
        due.is("17: and is out", y.beats(1), 1);
        Due.write(y, "b=2", 1);
        y.crosser(5, 0, 0);
        y.go(3);
        y.beats(3);
        at(y, 1, 1, 1);
        y.beats(1);
        at(y, 1, 3, 1);
    }

    private static void ropeThatStands() {
        RopeBorder y = new RopeBorder();
        y.turner(2);
        y.turner(1);
        y.crosser(0, 0, 0);
        y.crosser(0, 0, 0);
        y.crosser(21, 0, 1);
        y.crosser(0, 0, 3);
        y.crosser(0, 0, 3);
        y.change(3, 3, 3);
        y.go(15);
        y.beats(2);
        at(y, 2, 1, 2);
        due.is("17: beats(1) when it stands", y.beats(1), 3);
        at(y, 0, 2, 1);
        at(y, 1, 2, 0);
        at(y, 2, 2, 2);
        at(y, 3, 3, 0);
        at(y, 4, 0, 0);
        due.is("17: nobody jumps", y.wear(0) + y.wear(1), 0);
        due.is("17: BEAT goes on", y.count(3), 3);
        due.is("17: TIRED stays", y.ofTurner(0, 1), 2);
        due.is("17: without turners", new RopeBorder().beats(200), 0);
    }

    private static void edgesOfBeats() {
        RopeBorder x = new RopeBorder();
        due.is("17: beats(0)", x.beats(0), Due.BEYOND);
        due.is("17: beats(-1)", x.beats(-1), Due.BEYOND);
        due.is("17: beats(201)", x.beats(201), Due.BEYOND);
        due.is("17: beats(MAX)", x.beats(Integer.MAX_VALUE), Due.BEYOND);
        due.is("18: loose(0)", x.loose(0), Due.BEYOND);
        due.is("18: loose(41)", x.loose(41), Due.BEYOND);
        due.is("18: loose(MIN)", x.loose(Integer.MIN_VALUE), Due.BEYOND);
        due.is("17: BEAT behind errors", x.count(3), 0);
        due.is("17: beats(200)", x.beats(200), 0);
        due.is("18: loose(40)", x.loose(40), 0);
        due.is("17: BEAT", x.count(3), 240);
    }

    private static RopeBorder atBeat99800() {
        RopeBorder x = new RopeBorder();
        x.crosser(0, 0, 0);
        for (int i = 0; i < 499; i++) {
            x.beats(200);
        }
        return x;
    }

    private static void lastBeat() {
        RopeBorder x = atBeat99800();
        due.is("17: beats(200) beyond the last", x.beats(200), Due.STATE);
        due.is("17: beats(201) there", x.beats(201), Due.BEYOND);
        due.is("17: beats(199) to the last", x.beats(199), 0);
        due.is("17: BEAT is the last", x.count(3), 99999);
        due.is("17: beats(1) beyond the last", x.beats(1), Due.STATE);
        due.is("18: loose(1) beyond the last", x.loose(1), Due.STATE);
        due.is("18: z stays", x.count(13), 1);
        x.go(1);
        due.is("21: over() thinks beyond the last", x.over(0), 1);
        RopeBorder y = atBeat99800();
        y.beats(160);
        due.is("18: loose(40) beyond the last", y.loose(40), Due.STATE);
        due.is("18: loose(41) there", y.loose(41), Due.BEYOND);
        due.is("18: who goes stays", y.count(7), 0);
        due.is("18: loose(39) to the last", y.loose(39), 1);
        due.is("18: BEAT is the last", y.count(3), 99999);
    }

    private static void draws() {
        RopeBorder x = three();
        due.is("30: seed(77)", x.seed(77), 1);
        due.is("30: seed(-5)", x.seed(-5), 77);
        due.is("30: seed(LOW - 1)", x.seed(Due.BEYOND), -5);
        due.is("30: what it was may look like an ERROR", x.seed(1), Due.BEYOND);
        due.is("30: but isn't counted", x.told(1), 0);
        int z = 1;
        int going = 7;
        for (int i = 0; i < 30; i++) {
            x.loose(1);
            z = z * 1103515245 + 12345;
            going ^= 1 << ((z >>> 8) % 3);
            due.is("18: z behind " + i, x.count(13), z);
            due.is("18: who goes behind " + i, x.count(7), going);
        }
        due.is("18: BEAT", x.count(3), 30);
        RopeBorder y = three();
        y.loose(30);
        due.is("18: 30 at once", y.count(7), going);
        due.is("18: and z", y.count(13), z);
        RopeBorder s = new RopeBorder();
        s.crosser(0, 0, 0);
        due.is("18: the draw comes ahead of the beat", s.loose(1), 1);
        due.is("18: then he doesn't go", s.loose(1), 1);
        due.is("18: count(7)", s.count(7), 0);
    }

    private static void drawsWithoutCrossers() {
        RopeBorder x = new RopeBorder();
        due.is("18: loose(9) without crossers", x.loose(9), 0);
        due.is("18: no draw", x.count(13), 1);
        due.is("18: but beats", x.count(3), 9);
    }
}
