/**
 * A call that answers an ERROR changes nothing but what told() tells: of two objects one is given
 * all calls, the other one those alone that answer no ERROR, and both must answer these alike.
 */
public final class ErrorsChangeNothingTest {
    private static final int RUNS = 150;
    private static final int CALLS = 500;

    public static void main(String[] args) throws ReflectiveOperationException {
        Due due = new Due("ErrorsChangeNothingTest");
        int[] all = new int[6];
        for (int run = 0; run < RUNS; run++) {
            oneRun(due, 5000 + run, all);
        }
        for (int k = 1; k <= 5; k++) {
            due.holds("there were ERRORS LOW - " + k, all[k] > 50);
        }
        due.end();
    }

    private static int toldInAll(SlowBorder y) {
        int sum = 0;
        for (int k = 1; k <= 5; k++) {
            sum += y.told(k);
        }
        return sum;
    }

    private static void oneRun(Due due, long seed, int[] all) throws ReflectiveOperationException {
        RopeBorder x = new RopeBorder();
        RopeBorder spared = new RopeBorder();
        SlowBorder y = new SlowBorder();
        Caller caller = new Caller(seed);
        caller.begin();
        int[] errors = new int[6];
        for (int i = 0; i < CALLS; i++) {
            Caller.Call call = caller.next(y);
            int before = toldInAll(y);
            call.answer(y);
            int got = call.answer(x);
            if (toldInAll(y) > before) {
                int k = Due.LOW - got;
                due.holds("run " + seed + ", " + call.told() + " is an ERROR", k >= 1 && k <= 5);
                errors[k >= 1 && k <= 5 ? k : 0]++;
            } else if (!call.method().getName().equals("told")) {
                due.is("run " + seed + ", " + call.told() + " behind ERRORS", got, call.answer(spared));
            }
        }
        for (int k = 1; k <= 5; k++) {
            due.is("43: told(" + k + ") behind run " + seed, x.told(k), errors[k]);
            due.is("43: told(" + k + ") of the one that was spared", spared.told(k), 0);
            all[k] += errors[k];
        }
    }
}
