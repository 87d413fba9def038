/** Promises 2 to 6, 13, 19, 25, 26: the rope, its rhyme and wear, and who turns it. */
public final class RopeAndTurnersTest {
    private static final Due due = new Due("RopeAndTurnersTest");

    public static void main(String[] args) {
        rope();
        rhyme();
        turner();
        ofTurner();
        relieve();
        spliceAndWear();
        relief();
        stands();
        due.end();
    }

    private static void rope() {
        RopeBorder x = new RopeBorder();
        due.is("2: rope(1)", x.rope(1), Due.BEYOND);
        due.is("2: rope(9)", x.rope(9), Due.BEYOND);
        due.is("2: rope(MIN)", x.rope(Integer.MIN_VALUE), Due.BEYOND);
        due.is("2: count(0) behind errors", x.count(0), 4);
        due.is("2: rope(2)", x.rope(2), 4);
        due.is("2: rope(8)", x.rope(8), 2);
        for (int i = 0; i < 8; i++) {
            x.splice(i, 100 + i);
        }
        due.is("2: rope(8) again", x.rope(8), 8);
        for (int i = 0; i < 8; i++) {
            due.is("2: wear(" + i + ") on a new rope", x.wear(i), 0);
        }
        x.splice(7, 5);
        x.rope(4);
        x.rope(8);
        due.is("2: wear(7) of a place that was gone", x.wear(7), 0);
        x.crosser(0, 0, 7);
        due.is("2: rope(9) with crossers", x.rope(9), Due.BEYOND);
        due.is("2: rope(8) with crossers", x.rope(8), Due.STATE);
        due.is("2: told BEYOND", x.told(1), 4);
        due.is("2: told STATE", x.told(3), 1);
    }

    private static void rhyme() {
        RopeBorder x = new RopeBorder();
        due.is("3: rhyme(0, 0)", x.rhyme(0, 0), Due.BEYOND);
        due.is("3: rhyme(17, 0)", x.rhyme(17, 0), Due.BEYOND);
        due.is("3: rhyme(1, 2)", x.rhyme(1, 2), Due.BEYOND);
        due.is("3: rhyme(4, -1)", x.rhyme(4, -1), Due.BEYOND);
        due.is("3: rhyme(16, 65536)", x.rhyme(16, 65536), Due.BEYOND);
        due.is("3: rhyme(16, MIN)", x.rhyme(16, Integer.MIN_VALUE), Due.BEYOND);
        due.is("3: count(2) behind errors", x.count(2), 1);
        due.is("3: rhyme(1, 1)", x.rhyme(1, 1), 4);
        due.is("3: rhyme(16, 65535)", x.rhyme(16, 65535), 1);
        due.is("3: count(1)", x.count(1), 16);
        due.is("3: count(2)", x.count(2), 65535);
        due.is("3: rhyme(5, 0)", x.rhyme(5, 0), 16);
        x.beats(7);
        x.rhyme(3, 0);
        due.is("3: BEAT stays", x.count(3), 7);
    }

    private static void turner() {
        RopeBorder x = new RopeBorder();
        due.is("4: turner(0)", x.turner(0), Due.BEYOND);
        due.is("4: turner(100)", x.turner(100), Due.BEYOND);
        due.is("4: turner(1)", x.turner(1), 0);
        due.is("4: turner(99)", x.turner(99), 1);
        due.is("4: turner(5)", x.turner(5), 2);
        due.is("4: turner(6)", x.turner(6), 3);
        due.is("4: turner(0) when full", x.turner(0), Due.BEYOND);
        due.is("4: turner(7) when full", x.turner(7), Due.FULL);
        due.is("4: count(4)", x.count(4), 4);
        due.is("4: count(5)", x.count(5), 0);
    }

    private static void ofTurner() {
        RopeBorder x = new RopeBorder();
        x.turner(30);
        x.turner(40);
        x.relieve(1);
        x.beats(3);
        int[][] want = {{30, 0, 0}, {40, 3, 1}};
        for (int turner = 0; turner < 2; turner++) {
            for (int what = 0; what < 3; what++) {
                due.is("5: ofTurner(" + turner + ", " + what + ")",
                    x.ofTurner(turner, what), want[turner][what]);
            }
        }
        due.is("5: ofTurner(2, 0)", x.ofTurner(2, 0), Due.BEYOND);
        due.is("5: ofTurner(-1, 0)", x.ofTurner(-1, 0), Due.BEYOND);
        due.is("5: ofTurner(0, 3)", x.ofTurner(0, 3), Due.BEYOND);
        due.is("5: ofTurner(0, -1)", x.ofTurner(0, -1), Due.BEYOND);
        x.relieve(0);
        x.beats(2);
        due.is("5: who turns tires", x.ofTurner(0, 1), 2);
        due.is("5: who doesn't turn rests", x.ofTurner(1, 1), 1);
        x.beats(5);
        due.is("5: rested to 0, no further", x.ofTurner(1, 1), 0);
    }

    private static void relieve() {
        RopeBorder x = new RopeBorder();
        due.is("6: relieve(0) without turners", x.relieve(0), Due.BEYOND);
        x.turner(3);
        x.turner(3);
        due.is("6: relieve(2)", x.relieve(2), Due.BEYOND);
        due.is("6: relieve(-1)", x.relieve(-1), Due.BEYOND);
        due.is("6: relieve(1)", x.relieve(1), 0);
        due.is("6: relieve(0)", x.relieve(0), 1);
        due.is("6: relieve(0) again", x.relieve(0), 0);
        due.is("6: count(5)", x.count(5), 0);
    }

    private static void spliceAndWear() {
        RopeBorder x = new RopeBorder();
        due.is("13: splice(0, 999)", x.splice(0, 999), 0);
        due.is("13: splice(0, 0)", x.splice(0, 0), 999);
        due.is("13: splice(3, 7)", x.splice(3, 7), 0);
        due.is("13: splice(4, 0)", x.splice(4, 0), Due.BEYOND);
        due.is("13: splice(-1, 0)", x.splice(-1, 0), Due.BEYOND);
        due.is("13: splice(3, 1000)", x.splice(3, 1000), Due.BEYOND);
        due.is("13: splice(3, -1)", x.splice(3, -1), Due.BEYOND);
        due.is("19: wear(0)", x.wear(0), 0);
        due.is("19: wear(3)", x.wear(3), 7);
        due.is("19: wear(4)", x.wear(4), Due.BEYOND);
        due.is("19: wear(-1)", x.wear(-1), Due.BEYOND);
        x.rope(2);
        due.is("19: wear(2) of two places", x.wear(2), Due.BEYOND);
    }

    private static void relief() {
        RopeBorder x = new RopeBorder();
        due.is("25: relief() without turners", x.relief(), Due.NONE);
        due.is("25: told(2)", x.told(2), 1);
        x.turner(10);
        due.is("25: relief() of one", x.relief(), 0);
        x.turner(10);
        due.is("25: relief() of equals", x.relief(), 0);
        x.beats(1);
        due.is("25: relief() when 0 is tired", x.relief(), 1);
        x.turner(11);
        x.turner(11);
        due.is("25: relief() of stronger equals", x.relief(), 2);
    }

    private static void stands() {
        RopeBorder x = new RopeBorder();
        due.is("26: stands() without turners", x.stands(), 0);
        x.turner(1);
        due.is("26: stands() by strength 1", x.stands(), 1);
        x.turner(99);
        x.relieve(1);
        due.is("26: stands() by strength 99", x.stands(), 99);
        due.is("26: only thought", x.count(3), 0);
        x.beats(98);
        due.is("26: stands() by 1 left", x.stands(), 1);
        x.beats(1);
        due.is("26: stands() now", x.stands(), 0);
        x.beats(5);
        due.is("26: nobody tires while it stands", x.ofTurner(1, 1), 99);
        x.relieve(0);
        due.is("26: stands() behind relief", x.stands(), 1);
        x.beats(1);
        due.is("26: the other one rests", x.ofTurner(1, 1), 98);
        x.beats(9);
        due.is("26: nobody rests while it stands", x.ofTurner(1, 1), 98);
    }
}
