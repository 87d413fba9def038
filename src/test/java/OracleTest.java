import java.util.ArrayList;
import java.util.List;
import java.util.Map;
import java.util.TreeMap;

/** All promises: long runs of made-up calls, which a second, slow program must answer alike. */
public final class OracleTest {
    private static final int RUNS = 120;
    private static final int CALLS = 500;
    private static final int TEXTS = 20000;

    public static void main(String[] args) throws ReflectiveOperationException {
        Due due = new Due("OracleTest");
        int runs = args.length > 0 ? Integer.parseInt(args[0]) : RUNS;
        long first = args.length > 1 ? Long.parseLong(args[1]) : 1;
        Map<String, int[]> kinds = new TreeMap<>();
        for (int run = 0; run < runs; run++) {
            oneRun(due, first + run, kinds);
        }
        texts(due, first);
        everyCallWasAnswered(due, kinds);
        due.end();
    }

    private static void oneRun(Due due, long seed, Map<String, int[]> kinds) throws ReflectiveOperationException {
        RopeBorder x = new RopeBorder();
        SlowBorder y = new SlowBorder();
        Caller caller = new Caller(seed);
        caller.begin();
        List<String> made = new ArrayList<>();
        for (int i = 0; i < CALLS; i++) {
            Caller.Call call = caller.next(y);
            int want = call.answer(y);
            int got = call.answer(x);
            made.add(call.told() + " " + got);
            kinds.computeIfAbsent(call.method().getName(), k -> new int[2])[want < Due.LOW ? 1 : 0]++;
            due.is("run " + seed + ", call " + i + ", " + call.told(), got, want);
            if (got != want) {
                System.out.println(String.join("\n", made));
                return;
            }
        }
    }

    private static void texts(Due due, long seed) {
        Caller caller = new Caller(-seed);
        int faults = 0;
        for (int i = 0; i < TEXTS; i++) {
            int use = i % 2;
            String names = use == 0 ? "klp" : "kwb";
            String text = caller.someText(use);
            int fault = SlowBorder.fault(text, names);
            RopeBorder x = new RopeBorder();
            due.is("text " + text, Due.write(x, text, use), fault < 0 ? 1 : -10 - fault);
            if (fault >= 0) {
                faults++;
                continue;
            }
            int a = caller.below(20) - 5;
            int b = caller.below(200) - 50;
            int c = caller.below(17);
            int value = SlowBorder.worked(text, names, a, b, c);
            int held = use == 0 ? Math.max(1, Math.min(9, value)) : Math.max(0, Math.min(1, value));
            due.is("law of " + text, x.law(use, a, b, c), held);
        }
        due.holds("some texts are faulty, some aren't", faults > TEXTS / 20 && faults < TEXTS / 2);
    }

    private static void everyCallWasAnswered(Due due, Map<String, int[]> kinds) {
        due.is("calls of the face", kinds.size(), 42);
        kinds.forEach((name, n) -> due.holds(name + " was answered, not just refused", n[0] > 0));
    }
}
