/** Promises 33 to 37: sheets. */
public final class SheetsTest {
    private static final Due due = new Due("SheetsTest");

    public static void main(String[] args) {
        sheet();
        put();
        move();
        moveOverItself();
        loads();
        judge();
        due.end();
    }

    private static RopeBorder withCrossers(int n) {
        RopeBorder x = new RopeBorder();
        for (int i = 0; i < n; i++) {
            x.crosser(0, 0, 0);
        }
        return x;
    }

    private static void fill(RopeBorder x, int sheet, int... numbers) {
        for (int i = 0; i < numbers.length; i++) {
            due.is("34: put(" + sheet + ", " + i + ", ..)", x.put(sheet, i, numbers[i]), 1);
        }
    }

    /** Reads a sheet's first numbers by making them loads; they must be 0 to 99. */
    private static void numbers(RopeBorder x, String what, int sheet, int... want) {
        due.is(what + ", how many", x.loads(sheet), want.length);
        for (int i = 0; i < want.length; i++) {
            due.is(what + ", number " + i, x.ofCrosser(i, 3), want[i]);
        }
    }

    private static void sheet() {
        RopeBorder x = new RopeBorder();
        due.is("33: sheet(-1, 8, 1)", x.sheet(-1, 8, 1), Due.BEYOND);
        due.is("33: sheet(4, 8, 1)", x.sheet(4, 8, 1), Due.BEYOND);
        due.is("33: sheet(4, 8, -1)", x.sheet(4, 8, -1), Due.BEYOND);
        due.is("33: sheet(0, 7, 1)", x.sheet(0, 7, 1), Due.BEYOND);
        due.is("33: sheet(0, 64, -1)", x.sheet(0, 64, -1), Due.BEYOND);
        due.is("33: sheet(0, -8, 1)", x.sheet(0, -8, 1), Due.BEYOND);
        due.is("33: sheet(0, 8, -1)", x.sheet(0, 8, -1), Due.STATE);
        due.is("33: sheet(0, 8, MIN)", x.sheet(0, 8, Integer.MIN_VALUE), Due.STATE);
        due.is("33: sheet(0, 8, 41)", x.sheet(0, 8, 41), Due.BEYOND);
        due.is("33: it is missing still", x.put(0, 0, 0), Due.NONE);
        int[] bits = {8, 16, 32, 8};
        for (int i = 0; i < 4; i++) {
            due.is("33: sheet " + i, x.sheet(i, bits[i], 40), 1);
            due.is("33: its last number", x.put(i, 39, 5), 1);
            due.is("33: one beyond", x.put(i, 40, 5), Due.BEYOND);
        }
        due.is("33: sheet(1, 16, 0)", x.sheet(1, 16, 0), 1);
        due.is("33: it has no number", x.put(1, 0, 5), Due.BEYOND);
        due.is("33: sheet(1, 0, -7)", x.sheet(1, 0, -7), 1);
        due.is("33: it is missing", x.put(1, 0, 5), Due.NONE);
        due.is("33: sheet(2, 0, 99)", x.sheet(2, 0, 99), 1);
        due.is("33: it is missing, too", x.judge(2), Due.NONE);
        due.is("33: sheet(2, 0, 0) again", x.sheet(2, 0, 0), 1);
        RopeBorder y = withCrossers(3);
        y.sheet(0, 8, 3);
        fill(y, 0, 1, 2, 3);
        y.sheet(0, 8, 3);
        numbers(y, "33: all 0 anew", 0, 0, 0, 0);
        fill(y, 0, 1, 2, 3);
        y.sheet(0, 8, 1);
        y.sheet(0, 8, -1);
        y.sheet(0, 8, 41);
        numbers(y, "33: as it was behind ERRORS", 0, 0);
    }

    private static void put() {
        RopeBorder x = withCrossers(1);
        due.is("34: put(-1, 0, 0)", x.put(-1, 0, 0), Due.BEYOND);
        due.is("34: put(4, 0, 0)", x.put(4, 0, 0), Due.BEYOND);
        due.is("34: put(0, 0, 0)", x.put(0, 0, 0), Due.NONE);
        due.is("34: put(0, -1, 0)", x.put(0, -1, 0), Due.NONE);
        x.sheet(0, 8, 1);
        due.is("34: put(0, -1, 0) of one", x.put(0, -1, 0), Due.BEYOND);
        due.is("34: put(0, 1, 0) of one", x.put(0, 1, 0), Due.BEYOND);
        due.is("34: put(0, 0, 256 + 7)", x.put(0, 0, 256 + 7), 1);
        numbers(x, "34: the lowest 8 bits", 0, 7);
        x.put(0, 0, -256 + 9);
        numbers(x, "34: the lowest 8 bits of one below 0", 0, 9);
        x.put(0, 0, -1);
        due.is("34: -1 is no load", x.loads(0), 0);
        x.sheet(0, 16, 1);
        x.put(0, 0, 256 + 7);
        due.is("34: 263 is no load", x.loads(0), 0);
        x.put(0, 0, 65536 + 8);
        numbers(x, "34: the lowest 16 bits", 0, 8);
        x.sheet(0, 32, 1);
        x.put(0, 0, 65536 + 8);
        due.is("34: all 32 bits", x.loads(0), 0);
        x.put(0, 0, 99);
        numbers(x, "34: 99", 0, 99);
    }

    private static void move() {
        RopeBorder x = withCrossers(4);
        due.is("35: sheet -1", x.move(-1, 0, 0, 0, 0), Due.BEYOND);
        due.is("35: other 4", x.move(0, 0, 4, 0, 0), Due.BEYOND);
        due.is("35: both are missing", x.move(0, 0, 1, 0, 0), Due.NONE);
        x.sheet(0, 16, 4);
        due.is("35: other is missing", x.move(0, 0, 1, 0, 0), Due.NONE);
        due.is("35: sheet is missing", x.move(1, 0, 0, 0, -1), Due.NONE);
        due.is("35: other 4, sheet is missing", x.move(1, 0, 4, 0, 0), Due.BEYOND);
        x.sheet(1, 8, 4);
        due.is("35: unlike bits", x.move(0, 0, 1, 0, 1), Due.KIND);
        due.is("35: unlike bits, n below 0", x.move(0, 0, 1, 0, -1), Due.KIND);
        x.sheet(1, 16, 3);
        fill(x, 0, 11, 12, 13, 14);
        fill(x, 1, 21, 22, 23);
        due.is("35: n -1", x.move(0, 0, 1, 0, -1), Due.BEYOND);
        due.is("35: i -1", x.move(0, -1, 1, 0, 1), Due.BEYOND);
        due.is("35: j -1", x.move(0, 0, 1, -1, 1), Due.BEYOND);
        due.is("35: they don't stand there", x.move(0, 3, 1, 0, 2), Due.BEYOND);
        due.is("35: no room", x.move(0, 0, 1, 2, 2), Due.BEYOND);
        due.is("35: 4 into 3", x.move(0, 0, 1, 0, 4), Due.BEYOND);
        due.is("35: 4 out of 3", x.move(1, 0, 0, 0, 4), Due.BEYOND);
        due.is("35: far i", x.move(0, Integer.MAX_VALUE, 1, 0, 1), Due.BEYOND);
        due.is("35: far j", x.move(0, 0, 1, Integer.MAX_VALUE, 1), Due.BEYOND);
        due.is("35: far n", x.move(0, 1, 1, 1, Integer.MAX_VALUE), Due.BEYOND);
        due.is("35: none, from beyond", x.move(0, 5, 1, 0, 0), Due.BEYOND);
        numbers(x, "35: as they were behind ERRORS", 1, 21, 22, 23);
        due.is("35: none, at the ends", x.move(0, 4, 1, 3, 0), 0);
        due.is("35: two", x.move(0, 2, 1, 0, 2), 2);
        numbers(x, "35: two came", 1, 13, 14, 23);
        numbers(x, "35: and stayed", 0, 11, 12, 13, 14);
        due.is("35: three", x.move(1, 0, 0, 1, 3), 3);
        numbers(x, "35: three came", 0, 11, 13, 14, 23);
    }

    private static void moveOverItself() {
        RopeBorder x = withCrossers(5);
        x.sheet(3, 32, 5);
        fill(x, 3, 1, 2, 3, 4, 5);
        due.is("35: up", x.move(3, 0, 3, 1, 4), 4);
        numbers(x, "35: up, as they all were", 3, 1, 1, 2, 3, 4);
        fill(x, 3, 1, 2, 3, 4, 5);
        due.is("35: down", x.move(3, 2, 3, 0, 3), 3);
        numbers(x, "35: down, as they all were", 3, 3, 4, 5, 4, 5);
        due.is("35: in place", x.move(3, 0, 3, 0, 5), 5);
        numbers(x, "35: in place, as they were", 3, 3, 4, 5, 4, 5);
    }

    private static void loads() {
        RopeBorder x = withCrossers(3);
        due.is("36: loads(-1)", x.loads(-1), Due.BEYOND);
        due.is("36: loads(4)", x.loads(4), Due.BEYOND);
        due.is("36: loads(0)", x.loads(0), Due.NONE);
        x.sheet(0, 16, 5);
        fill(x, 0, 99, 1, 2, 3, 4);
        numbers(x, "36: as many as crossers", 0, 99, 1, 2);
        fill(x, 0, 5, 100, 6);
        due.is("36: 100 is none", x.loads(0), 1);
        due.is("36: the first becomes", x.ofCrosser(0, 3), 5);
        due.is("36: the second stays", x.ofCrosser(1, 3), 1);
        due.is("36: the third stays", x.ofCrosser(2, 3), 2);
        fill(x, 0, -1);
        due.is("36: -1 is none", x.loads(0), 0);
        x.sheet(0, 16, 2);
        numbers(x, "36: fewer than crossers", 0, 0, 0);
        due.is("36: the third stays still", x.ofCrosser(2, 3), 2);
        x.sheet(1, 8, 0);
        due.is("36: no numbers", x.loads(1), 0);
        RopeBorder y = new RopeBorder();
        y.sheet(0, 8, 3);
        due.is("36: no crossers", y.loads(0), 0);
        due.is("36: no ERROR", x.told(1) + x.told(2) + x.told(3) + x.told(4) + x.told(5), 3);
    }

    private static void judge() {
        RopeBorder x = withCrossers(3);
        due.is("37: judge(-1)", x.judge(-1), Due.BEYOND);
        due.is("37: judge(4)", x.judge(4), Due.BEYOND);
        due.is("37: judge(0)", x.judge(0), Due.NONE);
        x.sheet(0, 8, 3);
        due.is("37: all are", x.judge(0), -1);
        x.change(1, 3, 2);
        due.is("37: the second isn't", x.judge(0), 1);
        x.change(2, 3, 3);
        fill(x, 0, 0, 2, 3);
        due.is("37: all are again", x.judge(0), -1);
        fill(x, 0, 256, 258, 2);
        due.is("37: the third isn't", x.judge(0), 2);
        x.sheet(1, 32, 2);
        fill(x, 1, 0, 2);
        due.is("37: one lacks", x.judge(1), 2);
        x.sheet(1, 32, 4);
        fill(x, 1, 0, 2, 3, 0);
        due.is("37: one is too many", x.judge(1), 3);
        fill(x, 1, 1);
        due.is("37: the first isn't", x.judge(1), 0);
        x.sheet(1, 8, 0);
        due.is("37: all lack", x.judge(1), 0);
        RopeBorder y = new RopeBorder();
        y.sheet(0, 8, 0);
        due.is("37: none of none", y.judge(0), -1);
        y.sheet(0, 8, 1);
        due.is("37: one of none", y.judge(0), 0);
    }
}
