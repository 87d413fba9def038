/** Promise 1: a new object has all as at first. */
public final class NewObjectTest {
    public static void main(String[] args) {
        Due due = new Due("NewObjectTest");
        RopeBorder x = new RopeBorder();
        int[] counts = {4, 4, 1, 0, 0, 0, 0, 0, 0, 0, 0, 0, 0, 1};
        for (int what = 0; what < counts.length; what++) {
            due.is("count(" + what + ")", x.count(what), counts[what]);
        }
        for (int k = 1; k <= 5; k++) {
            due.is("told(" + k + ")", x.told(k), 0);
        }
        for (int place = 0; place < 4; place++) {
            due.is("wear(" + place + ")", x.wear(place), 0);
        }
        due.is("wear(4)", x.wear(4), Due.BEYOND);
        due.is("ofTurner(0, 0)", x.ofTurner(0, 0), Due.BEYOND);
        due.is("ofCrosser(0, 0)", x.ofCrosser(0, 0), Due.BEYOND);
        for (int sheet = 0; sheet < 4; sheet++) {
            due.is("judge(" + sheet + ")", x.judge(sheet), Due.NONE);
        }
        due.is("trace(0)", x.trace(0), Due.NONE);
        due.is("restore()", x.restore(), Due.NONE);
        due.is("check()", x.check(), 0);
        due.is("law(0, 0, 40, 0)", x.law(0, 0, 40, 0), 3);
        due.is("law(1, 0, 99, 0)", x.law(1, 0, 99, 0), 1);
        due.is("law(1, 0, 100, 0)", x.law(1, 0, 100, 0), 0);
        due.is("seed(7)", x.seed(7), 1);
        twoObjectsShareNothing(due);
        due.end();
    }

    private static void twoObjectsShareNothing(Due due) {
        RopeBorder x = new RopeBorder();
        RopeBorder y = new RopeBorder();
        x.turner(5);
        x.splice(0, 9);
        Due.write(x, "7", 0);
        x.image();
        due.is("other's count(4)", y.count(4), 0);
        due.is("other's wear(0)", y.wear(0), 0);
        due.is("other's law(0, 0, 0, 0)", y.law(0, 0, 0, 0), 1);
        due.is("other's restore()", y.restore(), Due.NONE);
    }
}
