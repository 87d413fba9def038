import java.util.ArrayList;
import java.util.List;

/**
 * Whether a call that answers an ERROR changes nothing but what told() tells: of two objects that
 * came to the same state one is given that call, and both must answer alike whatever is asked then.
 */
final class Untouched {
    /** Each is asked of two new objects, so that it may change them; ten calls at most. */
    private static final List<List<Script.Step>> QUESTIONS = questions();

    private Untouched() {
    }

    private static List<List<Script.Step>> questions() {
        List<String> all = new ArrayList<>();
        all.add(each("count(%d)", 0, 7));
        all.add(each("count(%d)", 8, 13));
        for (int i = 0; i < 4; i++) {
            all.add(each("ofTurner(" + i + ", %d)", 0, 2));
            all.add("judge(" + i + "); loads(" + i + "); " + each("ofCrosser(%d, 3)", 0, 7));
            all.add(sizeAndBits(i));
        }
        for (int i = 0; i < 8; i++) {
            all.add(each("ofCrosser(" + i + ", %d)", 0, 9));
        }
        String laws = "law(0, 0, 0, 0); law(0, 3, 40, 4); law(0, 9, 99, 16); law(1, 0, 0, 0); law(1, 0, 100, 1); law(1, 9, 999, 2)";
        all.add(each("wear(%d)", 0, 7));
        all.add(laws);
        all.add("text(0); " + laws);
        all.add("feed(0x32, 1); text(0); count(10); law(0, 0, 0, 0); law(0, 5, 6, 7)");
        all.add("feed(0x32, 1); text(1); count(10); law(1, 0, 0, 0); law(1, 5, 6, 7)");
        all.add("check(); count(11); tell(0)");
        all.add(each("trace(%d)", 0, 8));
        all.add("image(); image()");
        all.add("restore(); " + each("count(%d)", 0, 7));
        all.add("restore(); " + each("count(%d)", 8, 13));
        all.add("restore(); " + each("ofCrosser(0, %d)", 0, 8));
        all.add("restore(); " + each("wear(%d)", 0, 7));
        all.add("restore(); check(); " + laws);
        all.add("restore(); text(0); " + laws);
        all.add("loose(5); count(7); count(13); count(3); count(8); count(9)");
        all.add("stands(); relief(); over(0); over(1); begin(0); parts(1); most(9); odds(0, 9, 0)");
        List<List<Script.Step>> read = new ArrayList<>();
        for (String question : all) {
            read.add(Script.read(question));
        }
        return read;
    }

    private static String each(String call, int first, int last) {
        StringBuilder calls = new StringBuilder();
        for (int i = first; i <= last; i++) {
            calls.append(String.format(call, i)).append(i < last ? "; " : "");
        }
        return calls.toString();
    }

    private static String sizeAndBits(int sheet) {
        String[] calls = {
            "move(s, 0, s, 0, 1)", "move(s, 0, s, 0, 3)", "move(s, 0, s, 0, 4)", "move(s, 0, s, 0, 5)",
            "move(s, 0, s, 0, 40)", "put(s, 0, 263)", "loads(s)", "put(s, 0, 65543)", "loads(s)"
        };
        return String.join("; ", calls).replace("s, ", sheet + ", ").replace("(s)", "(" + sheet + ")");
    }

    /** The call is made behind those that are ahead. */
    static void check(Due due, List<Script.Step> ahead, Script.Step call, String what) {
        checkTold(due, ahead, call, what);
        List<Script.Step> touched = new ArrayList<>(ahead);
        touched.add(call);
        alike(due, touched, ahead, what);
    }

    static void alike(Due due, List<Script.Step> calls, List<Script.Step> others, String what) {
        int answers = 0;
        int alike = 0;
        for (List<Script.Step> question : QUESTIONS) {
            Script.Player one = new Script.Player();
            Script.Player other = new Script.Player();
            one.makeAll(calls);
            other.makeAll(others);
            for (Script.Step asked : question) {
                answers++;
                int want = other.make(asked);
                int got = one.make(asked);
                if (got == want) {
                    alike++;
                } else {
                    due.is(what + ", then " + asked.told(), got, want);
                }
            }
        }
        due.is(what + ": answers alike then", alike, answers);
    }

    private static void checkTold(Due due, List<Script.Step> ahead, Script.Step call, String what) {
        Script.Player touched = new Script.Player();
        Script.Player spared = new Script.Player();
        touched.makeAll(ahead);
        spared.makeAll(ahead);
        touched.make(call);
        List<Script.Step> told = Script.read(each("told(%d)", 1, 5));
        for (int k = 1; k <= 5; k++) {
            int more = call.isError() && call.want() == Due.LOW - k ? 1 : 0;
            due.is(what + ": told(" + k + ")", touched.make(told.get(k - 1)), spared.make(told.get(k - 1)) + more);
        }
    }
}
