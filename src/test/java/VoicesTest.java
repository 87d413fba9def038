/** Promises 31, 32: voices and their trace. */
public final class VoicesTest {
    private static final Due due = new Due("VoicesTest");

    /** By kind and act: the bodies in the order in which they begin. */
    private static final int[][][] TRACES = {
        {{10}, {11, 10}, {12}, {13, 11, 10, 12}},
        {{20, 10}, {11, 20, 10}, {12}, {13, 11, 20, 10, 12}},
        {{10}, {30, 11, 10, 12}, {12}, {13, 30, 11, 10, 12, 12}},
        {{10}, {11, 10}, {40, 12}, {13, 11, 10, 40, 12}},
        {{20, 10}, {11, 20, 10}, {12}, {50, 13, 11, 20, 10, 12, 20, 10}},
        {{10}, {60, 30, 11, 10, 12}, {12}, {13, 60, 30, 11, 10, 12, 12}},
        {{10}, {11, 10}, {70, 40, 12}, {71, 11, 10, 13, 11, 10, 70, 40, 12}}
    };

    public static void main(String[] args) {
        everyBody();
        voicesThatGoRound();
        traceOfTheLatest();
        wrongInputs();
        due.end();
    }

    /** The kinds as the document writes them, in Java's own classes. */
    private static class Speaker {
        final int n;
        final int m;

        Speaker(int n, int m) {
            this.n = n;
            this.m = m;
        }

        int counts(int x) {
            return x + n;
        }

        int jumps(int x) {
            return counts(x) * 2;
        }

        int trips(int x) {
            return x - m;
        }

        int runs(int x) {
            return jumps(x) ^ trips(x);
        }
    }

    private static class Smuggler extends Speaker {
        Smuggler(int n, int m) {
            super(n, m);
        }

        @Override
        int counts(int x) {
            return super.counts(x) * 3;
        }
    }

    private static class Carter extends Speaker {
        Carter(int n, int m) {
            super(n, m);
        }

        @Override
        int jumps(int x) {
            return super.jumps(x) - trips(1);
        }
    }

    private static class Child extends Speaker {
        Child(int n, int m) {
            super(n, m);
        }

        @Override
        int trips(int x) {
            return -super.trips(x);
        }
    }

    private static final class Army extends Smuggler {
        Army(int n, int m) {
            super(n, m);
        }

        @Override
        int runs(int x) {
            return super.runs(x) - counts(2);
        }
    }

    private static final class Tourist extends Carter {
        Tourist(int n, int m) {
            super(n, m);
        }

        @Override
        int jumps(int x) {
            return super.jumps(x + 1);
        }
    }

    private static final class Lover extends Child {
        Lover(int n, int m) {
            super(n, m);
        }

        @Override
        int trips(int x) {
            return super.trips(x) ^ n;
        }

        @Override
        int runs(int x) {
            return jumps(x) - super.runs(x);
        }
    }

    private static Speaker speaker(int kind, int n, int m) {
        switch (kind) {
            case 1: return new Smuggler(n, m);
            case 2: return new Carter(n, m);
            case 3: return new Child(n, m);
            case 4: return new Army(n, m);
            case 5: return new Tourist(n, m);
            case 6: return new Lover(n, m);
            default: return new Speaker(n, m);
        }
    }

    private static int said(Speaker who, int act, int x) {
        switch (act) {
            case 0: return who.counts(x);
            case 1: return who.jumps(x);
            case 2: return who.trips(x);
            default: return who.runs(x);
        }
    }

    private static RopeBorder eight() {
        RopeBorder x = new RopeBorder();
        for (int i = 0; i < 8; i++) {
            x.crosser(0, 0, 0);
        }
        return x;
    }

    private static void everyBody() {
        for (int kind = 0; kind < 7; kind++) {
            RopeBorder x = eight();
            for (int act = 0; act < 4; act++) {
                for (int n = 0; n < 8; n += 7) {
                    x.become(n, 10 * kind + 9 - n);
                    String call = "31: kind " + kind + ", act " + act + ", number " + n;
                    due.is(call, x.voice(n, act, 100), said(speaker(kind, n, 9 - n), act, 100));
                    checkTrace(x, TRACES[kind][act], "32: kind " + kind + ", act " + act);
                }
            }
        }
    }

    private static void checkTrace(RopeBorder x, int[] want, String what) {
        due.is(what + ", count(12)", x.count(12), want.length);
        for (int i = 0; i < want.length; i++) {
            due.is(what + ", trace(" + i + ")", x.trace(i), want[i]);
        }
        due.is(what + ", trace behind the last", x.trace(want.length), Due.NONE);
    }

    private static void voicesThatGoRound() {
        int[] xs = {Integer.MAX_VALUE, Integer.MIN_VALUE, -1, 0, 715827883, Due.BEYOND};
        for (int kind = 0; kind < 7; kind++) {
            RopeBorder x = eight();
            x.become(5, 10 * kind + 8);
            for (int act = 0; act < 4; act++) {
                for (int v : xs) {
                    due.is("31: kind " + kind + ", act " + act + " of " + v,
                        x.voice(5, act, v), said(speaker(kind, 5, 8), act, v));
                }
            }
            due.is("31: no answer is an ERROR", x.told(1), 0);
        }
    }

    private static void traceOfTheLatest() {
        RopeBorder x = eight();
        due.is("32: trace(0) at first", x.trace(0), Due.NONE);
        x.voice(0, 3, 1);
        x.voice(0, 2, 1);
        checkTrace(x, TRACES[0][2], "32: a shorter one");
        x.voice(8, 0, 0);
        x.voice(0, 4, 0);
        checkTrace(x, TRACES[0][2], "32: behind an ERROR");
        x.become(0, 40);
        x.image();
        x.voice(0, 3, 1);
        x.restore();
        checkTrace(x, TRACES[4][3], "32: behind restore()");
    }

    private static void wrongInputs() {
        RopeBorder x = new RopeBorder();
        due.is("31: voice(0, 0, 0) of none", x.voice(0, 0, 0), Due.BEYOND);
        x.crosser(0, 0, 0);
        due.is("31: voice(1, 0, 0)", x.voice(1, 0, 0), Due.BEYOND);
        due.is("31: voice(-1, 0, 0)", x.voice(-1, 0, 0), Due.BEYOND);
        due.is("31: voice(0, 4, 0)", x.voice(0, 4, 0), Due.BEYOND);
        due.is("31: voice(0, -1, 0)", x.voice(0, -1, 0), Due.BEYOND);
        x.voice(0, 0, 0);
        due.is("32: trace(-1)", x.trace(-1), Due.NONE);
        due.is("32: trace(1)", x.trace(1), Due.NONE);
        due.is("32: trace(40)", x.trace(40), Due.NONE);
        due.is("32: trace(MAX)", x.trace(Integer.MAX_VALUE), Due.NONE);
        due.is("32: told(2)", x.told(2), 4);
    }
}
