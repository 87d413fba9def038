/** Promises 20 to 24 and 27 to 29: what would be. */
public final class ThoughtTest {
    private static final Due due = new Due("ThoughtTest");

    public static void main(String[] args) {
        then();
        over();
        begin();
        rhymes();
        most();
        parts();
        who();
        odds();
        due.end();
    }

    /** Two at place 0, one at place 1 who needs two jumps: north behind 6, 10 and 10 beats. */
    private static RopeBorder three() {
        RopeBorder x = new RopeBorder();
        x.turner(50);
        x.crosser(0, 0, 0);
        x.crosser(0, 0, 0);
        x.crosser(21, 0, 1);
        x.go(7);
        return x;
    }

    /** One who jumps at beat 2 of the rhyme alone, and trips at beat 0. */
    private static RopeBorder choosy() {
        RopeBorder x = new RopeBorder();
        x.turner(90);
        x.rhyme(4, 5);
        Due.write(x, "b=2", 1);
        x.crosser(0, 0, 0);
        return x;
    }

    private static void then() {
        RopeBorder x = three();
        int[][] want = {{0, 0, 0}, {1, 0, 0}, {2, 1, 1}, {5, 1, 0}, {6, 2, 0}, {200, 2, 0}};
        for (int[] w : want) {
            due.is("20: then(" + w[0] + ", 0, 0)", x.then(w[0], 0, 0), w[1]);
            due.is("20: then(" + w[0] + ", 0, 1)", x.then(w[0], 0, 1), w[2]);
        }
        due.is("20: then(4, 2, 1)", x.then(4, 2, 1), 2);
        due.is("20: then(5, 2, 1)", x.then(5, 2, 1), 1);
        due.is("20: then(5, 1, 0)", x.then(5, 1, 0), 0);
        due.is("20: then(7, 1, 0)", x.then(7, 1, 0), 1);
        due.is("20: only thought", x.count(3) + x.ofCrosser(0, 5) + x.ofTurner(0, 1) + x.wear(0), 0);
        due.is("20: then(-1, 0, 0)", x.then(-1, 0, 0), Due.BEYOND);
        due.is("20: then(201, 0, 0)", x.then(201, 0, 0), Due.BEYOND);
        due.is("20: then(0, 3, 0)", x.then(0, 3, 0), Due.BEYOND);
        due.is("20: then(0, -1, 0)", x.then(0, -1, 0), Due.BEYOND);
        due.is("20: then(0, 0, 2)", x.then(0, 0, 2), Due.BEYOND);
        due.is("20: then(0, 0, -1)", x.then(0, 0, -1), Due.BEYOND);
        x.change(0, 3, 3);
        due.is("20: one who is held stays so", x.then(200, 0, 0), 3);
    }

    private static void over() {
        RopeBorder x = three();
        due.is("21: over(0)", x.over(0), 6);
        due.is("21: over(1)", x.over(1), 10);
        due.is("21: over(2)", x.over(2), 10);
        due.is("21: over(3)", x.over(3), Due.BEYOND);
        due.is("21: over(-1)", x.over(-1), Due.BEYOND);
        x.go(6);
        due.is("21: who doesn't go", x.over(0), Due.NONE);
        due.is("21: who has room then", x.over(1), 6);
        x.change(0, 3, 2);
        due.is("21: who is north", x.over(0), 0);
        x.change(1, 3, 3);
        due.is("21: who is held", x.over(1), Due.NONE);
        due.is("21: told(2)", x.told(2), 2);
        RopeBorder y = new RopeBorder();
        y.turner(99);
        y.rhyme(1, 0);
        y.crosser(0, 0, 0);
        y.go(1);
        due.is("21: when it stands at last", y.over(0), 100);
        due.is("21: only thought", y.count(3), 0);
    }

    private static void begin() {
        RopeBorder x = choosy();
        due.is("22: begin(1)", x.begin(1), Due.BEYOND);
        due.is("22: begin(-1)", x.begin(-1), Due.BEYOND);
        int[] want = {0, 0, 2, 1};
        for (int i = 0; i < 8; i++) {
            due.is("22: begin(0) at beat " + i, x.begin(0), want[i % 4]);
            x.go(i % 2);
            due.is("22: begin(0), whether he goes or not, at beat " + i, x.begin(0), want[i % 4]);
            x.go(0);
            x.beats(1);
        }
        x.crosser(0, 0, 0);
        x.go(2);
        due.is("22: one ahead at his place lets him in too late", x.begin(1), 0);
        due.is("22: nobody is moved", x.count(3), 8);
        Due.write(x, "0", 1);
        due.is("22: by none", x.begin(0), Due.NONE);
        x.change(0, 3, 2);
        due.is("22: one who is north", x.begin(0), Due.STATE);
        x.change(0, 3, 3);
        due.is("22: one who is held", x.begin(0), Due.STATE);
        begunBehindAnother();
    }

    /** The other, who goes from the first on, is out at beat 3 just ahead of, or behind, his turn. */
    private static void begunBehindAnother() {
        RopeBorder x = choosy();
        x.crosser(0, 0, 0);
        x.go(1);
        // 1 comes in as 0 goes out, at beat 3, and trips at beat 4; he must wait for beat 5
        due.is("22: begin(1) of one behind another", x.begin(1), Due.NONE);
        x.rhyme(8, 5);
        // at beat 3 he is in, at beat 8 he would trip: none of 0 to 3 helps, 9 is too late for 0 to 7
        due.is("22: begin(1) in a longer rhyme", x.begin(1), Due.NONE);
        Due.write(x, "b=2|b=0", 1);
        due.is("22: begin(1) when both beats do", x.begin(1), 0);
        x.change(0, 2, 1);
        Due.write(x, "b=2", 1);
        due.is("22: begin(1) at another place", x.begin(1), 0);
        x.beats(2);
        due.is("22: begin(1) there, from the beat that is down ahead of his", x.begin(1), 6);
    }

    private static void rhymes() {
        RopeBorder x = three();
        due.is("23: up, down, up", x.rhymes(3, 1, 0, 0), 2);
        due.is("23: the least", x.rhymes(3, 1, 0, 1), 2);
        due.is("23: in no beats", x.rhymes(0, 1, 0, 0), 0);
        due.is("23: in no beats, the least", x.rhymes(0, 1, 0, 1), Due.NONE);
        due.is("23: nobody asked", x.rhymes(0, 0, 0, 0), 16);
        due.is("23: nobody asked, the least", x.rhymes(60, 0, 0, 1), 0);
        due.is("23: till it stands", x.rhymes(50, 1, 0, 0), 14);
        due.is("23: till it stands, the least", x.rhymes(50, 1, 0, 1), 1);
        due.is("23: when it stands", x.rhymes(51, 1, 0, 0), 16);
        due.is("23: none is north when it is full or empty", x.rhymes(50, 0, 1, 0), 2);
        due.is("23: none of two", x.rhymes(50, 0, 6, 1), 0);
        // 1 alone is over like 0; behind 0 at its place he isn't in 3 beats; just they go, not 2
        due.is("23: 0, and 1 not", x.rhymes(3, 1, 2, 0), 2);
        due.is("23: 1, and 0 not", x.rhymes(3, 2, 1, 0), 0);
        due.is("23: 0 and 2", x.rhymes(4, 5, 0, 0), 1);
        due.is("23: 0 and 2, the least", x.rhymes(4, 5, 0, 1), 6);
        x.go(0);
        due.is("23: told ones go, whoever goes now", x.rhymes(3, 1, 0, 0), 2);
        x.go(1);
        due.is("23: others don't go, whoever goes now", x.rhymes(3, 2, 0, 0), 2);
        x.go(7);
        x.change(1, 3, 2);
        due.is("23: one who is north is", x.rhymes(0, 2, 0, 0), 16);
        due.is("23: and isn't not", x.rhymes(0, 0, 2, 1), Due.NONE);
        due.is("23: n -1", x.rhymes(-1, 0, 0, 0), Due.BEYOND);
        due.is("23: n 61", x.rhymes(61, 0, 0, 0), Due.BEYOND);
        due.is("23: a set beyond", x.rhymes(1, 8, 0, 0), Due.BEYOND);
        due.is("23: another set beyond", x.rhymes(1, 0, 8, 0), Due.BEYOND);
        due.is("23: a set below 0", x.rhymes(1, -1, 0, 0), Due.BEYOND);
        due.is("23: another set below 0", x.rhymes(1, 0, -1, 0), Due.BEYOND);
        due.is("23: one in both", x.rhymes(1, 3, 6, 0), Due.BEYOND);
        due.is("23: what 2", x.rhymes(1, 0, 0, 2), Due.BEYOND);
        due.is("23: what -1", x.rhymes(1, 0, 0, -1), Due.BEYOND);
        x.rhyme(8, 0);
        due.is("23: p 8", x.rhymes(1, 0, 0, 0), 256);
        x.rhyme(9, 3);
        due.is("23: p 9", x.rhymes(1, 0, 0, 0), Due.STATE);
        due.is("23: p 9, what 2", x.rhymes(1, 0, 0, 2), Due.BEYOND);
        due.is("23: the rhyme stays", x.count(2), 3);
        due.is("23: who goes stays", x.count(7), 7);
    }

    private static void most() {
        RopeBorder x = three();
        x.go(0);
        int[][] want = {{0, 0}, {5, 0}, {6, 1}, {9, 1}, {10, 7}, {60, 7}};
        for (int[] w : want) {
            due.is("24: most(" + w[0] + ")", x.most(w[0]), w[1]);
        }
        due.is("24: most(-1)", x.most(-1), Due.BEYOND);
        due.is("24: most(61)", x.most(61), Due.BEYOND);
        x.change(0, 2, 2);
        due.is("24: at places of their own", x.most(6), 3);
        x.change(0, 3, 2);
        due.is("24: only who is south", x.most(6), 2);
        x.change(0, 3, 3);
        due.is("24: not who is held", x.most(60), 6);
        x.change(0, 3, 0);
        x.change(0, 2, 0);
        x.go(1);
        x.beats(2);
        // 0 is in at place 0 and goes out at beat 5 without being told to go
        due.is("24: behind one who is in", x.most(8), 6);
        due.is("24: nobody else", x.most(7), 0);
        due.is("24: who goes stays", x.count(7), 1);
        due.is("24: without crossers", new RopeBorder().most(60), 0);
    }

    private static void parts() {
        RopeBorder x = three();
        due.is("27: parts(0)", x.parts(0), 0);
        due.is("27: parts(1)", x.parts(1), 5);
        due.is("27: parts(2)", x.parts(2), 9);
        due.is("27: parts(3)", x.parts(3), Due.NONE);
        due.is("27: parts(-1)", x.parts(-1), Due.BEYOND);
        due.is("27: parts(1000)", x.parts(1000), Due.BEYOND);
        x.splice(3, 999);
        due.is("27: parts(999)", x.parts(999), 0);
        x.splice(3, 0);
        x.splice(1, 10);
        due.is("27: parts(11)", x.parts(11), 5);
        due.is("27: only thought", x.wear(1), 10);
        RopeBorder y = new RopeBorder();
        y.rope(8);
        y.splice(7, 50);
        due.is("27: the last place", y.parts(50), 0);
        y.rope(7);
        due.is("27: a place that is gone", y.parts(1), Due.NONE);
    }

    private static void who() {
        RopeBorder x = three();
        due.is("28: a sheet that is missing", x.who(0, 0), Due.NONE);
        due.is("28: who(4, 0)", x.who(4, 0), Due.BEYOND);
        due.is("28: who(-1, 0)", x.who(-1, 0), Due.BEYOND);
        due.is("28: who(0, -1)", x.who(0, -1), Due.BEYOND);
        due.is("28: who(0, 201)", x.who(0, 201), Due.BEYOND);
        x.sheet(0, 8, 3);
        due.is("28: too few numbers", x.who(0, 0), Due.NONE);
        x.sheet(0, 8, 5);
        due.is("28: too many numbers", x.who(0, 0), Due.NONE);
        x.sheet(0, 16, 4);
        due.is("28: nobody has worn it", x.who(0, 4), 7);
        due.is("28: all have worn it", x.who(0, 5), 0);
        x.put(0, 0, 1);
        due.is("28: place 0 once", x.who(0, 5), 3);
        due.is("28: place 0 once, later", x.who(0, 200), 3);
        x.put(0, 0, 0);
        x.put(0, 1, 1);
        due.is("28: place 1 once", x.who(0, 8), 4);
        due.is("28: place 1 more", x.who(0, 9), 0);
        x.put(0, 1, 2);
        due.is("28: place 1 twice", x.who(0, 9), 4);
        x.change(2, 3, 3);
        due.is("28: only who is south", x.who(0, 9), 0);
        x.splice(1, 2);
        x.put(0, 0, 1);
        due.is("28: what was worn ahead", x.who(0, 9), 3);
        due.is("28: who goes stays", x.count(7), 7);
        wornBeyondAByte();
    }

    private static void wornBeyondAByte() {
        RopeBorder x = new RopeBorder();
        x.crosser(0, 0, 0);
        x.splice(0, 127);
        x.splice(1, 999);
        x.sheet(0, 16, 4);
        x.put(0, 0, 127);
        x.put(0, 1, 999 + 65536);
        due.is("28: the lowest 16 bits", x.who(0, 0), 1);
        x.sheet(0, 8, 4);
        x.put(0, 0, 127 - 256);
        due.is("28: 999 is in no byte", x.who(0, 0), 0);
        x.splice(1, 0);
        due.is("28: the lowest 8 bits", x.who(0, 0), 1);
        // a number of 8 bits is Java's: -128 to 127
        x.splice(0, 200);
        x.put(0, 0, 200);
        due.is("28: 200 is no number of 8 bits", x.who(0, 0), 0);
        x.sheet(0, 32, 4);
        x.put(0, 0, 200);
        due.is("28: 200 is one of 32", x.who(0, 0), 1);
        x.put(0, 0, 200 + 65536);
        due.is("28: of 32 bits all count", x.who(0, 0), 0);
    }

    private static void odds() {
        RopeBorder x = choosy();
        x.beats(6);
        // from places 0, 1 of the rhyme he is over behind 4 and 3 beats, from 2, 3 he trips
        int[][] want = {{0, 0, 1}, {2, 0, 1}, {3, 1, 4}, {4, 1, 2}, {80, 1, 2}, {200, 1, 2}};
        for (int[] w : want) {
            due.is("29: odds(0, " + w[0] + ", 0)", x.odds(0, w[0], 0), w[1]);
            due.is("29: odds(0, " + w[0] + ", 1)", x.odds(0, w[0], 1), w[2]);
        }
        x.go(1);
        due.is("29: one who goes already", x.odds(0, 4, 1), 2);
        x.go(0);
        due.is("29: BEAT stays", x.count(3), 6);
        due.is("29: who goes stays", x.count(7), 0);
        due.is("29: odds(1, 0, 0)", x.odds(1, 0, 0), Due.BEYOND);
        due.is("29: odds(-1, 0, 0)", x.odds(-1, 0, 0), Due.BEYOND);
        due.is("29: odds(0, -1, 0)", x.odds(0, -1, 0), Due.BEYOND);
        due.is("29: odds(0, 201, 0)", x.odds(0, 201, 0), Due.BEYOND);
        due.is("29: odds(0, 0, 2)", x.odds(0, 0, 2), Due.BEYOND);
        due.is("29: odds(0, 0, -1)", x.odds(0, 0, -1), Due.BEYOND);
        Due.write(x, "1", 1);
        due.is("29: sure, above", x.odds(0, 60, 0), 1);
        due.is("29: sure, below", x.odds(0, 60, 1), 1);
        x.crosser(0, 0, 0);
        x.go(1);
        // from places 1, 3: in, down, up and in as the other goes out, down, up: 5 beats; from 0, 2: 6
        due.is("29: behind one who goes, above", x.odds(1, 5, 0), 1);
        due.is("29: behind one who goes, below", x.odds(1, 5, 1), 2);
        due.is("29: behind one who goes, sooner", x.odds(1, 4, 0), 0);
        x.change(0, 3, 2);
        due.is("29: one who is north", x.odds(0, 0, 0), Due.STATE);
        due.is("29: told(1), told(3)", 10 * x.told(1) + x.told(3), 61);
        x.change(0, 3, 3);
        due.is("29: one who is held", x.odds(0, 0, 0), Due.STATE);
    }
}
