import java.lang.reflect.Method;
import java.util.ArrayList;
import java.util.Comparator;
import java.util.List;
import java.util.Random;

/** Makes up calls, ordinary and wrong ones, and makes them of any object with the document's face. */
final class Caller {
    /** Arguments are longs; those of int parameters are ints. */
    record Call(Method method, long[] arguments) {
        String told() {
            StringBuilder text = new StringBuilder(method.getName()).append('(');
            for (int i = 0; i < arguments.length; i++) {
                text.append(i == 0 ? "" : ", ").append(arguments[i]);
            }
            return text.append(')').toString();
        }

        int answer(Object of) throws ReflectiveOperationException {
            Method own = of.getClass().getMethod(method.getName(), method.getParameterTypes());
            Object[] boxed = new Object[arguments.length];
            for (int i = 0; i < boxed.length; i++) {
                boxed[i] = method.getParameterTypes()[i] == long.class ? arguments[i] : (Object) (int) arguments[i];
            }
            return (Integer) own.invoke(of, boxed);
        }
    }

    private static final int[] EDGES = {
        -1, 0, 1, 2, 3, 4, 7, 8, 9, 10, 16, 17, 20, 32, 39, 40, 41, 60, 61, 69, 70, 99, 100, 200, 201, 255, 256,
        999, 1000, 65535, 65536, Integer.MAX_VALUE, Integer.MIN_VALUE
    };

    private final Random random;
    private final List<Method> methods = new ArrayList<>();
    private final List<Call> ready = new ArrayList<>();

    Caller(long seed) {
        random = new Random(seed);
        for (Method method : RopeBorder.class.getDeclaredMethods()) {
            if (java.lang.reflect.Modifier.isPublic(method.getModifiers())) {
                methods.add(method);
            }
        }
        methods.sort(Comparator.comparing(Method::getName));
    }

    int below(int n) {
        return random.nextInt(n);
    }

    Call named(String name, long... arguments) {
        for (Method method : methods) {
            if (method.getName().equals(name)) {
                return new Call(method, arguments);
            }
        }
        throw new IllegalArgumentException(name);
    }

    /** Turners and crossers first, so that there is something to ask about. */
    void begin() {
        ready.clear();
        if (below(3) > 0) {
            ready.add(named("rope", 2 + below(7)));
        }
        for (int i = below(5); i > 0; i--) {
            ready.add(named("turner", below(3) == 0 ? 1 + below(10) : 20 + below(80)));
        }
        for (int i = below(9); i > 0; i--) {
            ready.add(named("crosser", below(70), below(10), below(below(2) == 0 ? 2 : 8)));
        }
        ready.add(named("go", below(256)));
    }

    Call next(SlowBorder like) {
        if (ready.isEmpty() && below(25) == 0) {
            makeText();
        }
        if (ready.isEmpty() && below(40) == 0) {
            makeWear(like);
        }
        if (!ready.isEmpty()) {
            return ready.remove(0);
        }
        Method method = methods.get(below(methods.size()));
        boolean isDear = method.getName().equals("rope") || method.getName().equals("restore");
        if (isDear && below(4) > 0) {
            return next(like);
        }
        long[] arguments = ordinary(method, like.count(6), like.count(0));
        if (arguments.length > 0 && below(6) == 0) {
            arguments[below(arguments.length)] = EDGES[below(EDGES.length)];
        }
        return new Call(method, arguments);
    }

    private long[] ordinary(Method method, int crossers, int places) {
        int crosser = crossers == 0 ? 0 : below(crossers);
        int set = below(1 << crossers);
        switch (method.getName()) {
            case "rope": return row(2 + below(7));
            case "rhyme":
                int p = below(4) == 0 ? 1 + below(16) : 1 + below(6);
                return row(p, below(1 << p) & below(1 << p));
            case "turner": return row(1 + below(99));
            case "ofTurner": return row(below(4), below(3));
            case "relieve": return row(below(4));
            case "crosser": return row(below(70), below(10), below(places));
            case "ofCrosser": return row(crosser, below(10));
            case "change":
                // back to the south, mostly: else all would be north before long
                if (below(3) > 0) {
                    return row(crosser, 3, 0);
                }
                int what = below(4);
                int[] most = {10, 100, places, 4};
                return row(crosser, what, below(most[what]));
            case "become": return row(crosser, below(70));
            case "as": return row(crosser, below(7));
            case "go": return row(set);
            case "splice": return row(below(places), below(4) == 0 ? below(1000) : below(120));
            case "feed": return new long[] {random.nextLong(), 1 + below(8)};
            case "text": return row(below(2));
            case "law": return row(below(2), below(2) == 0 ? below(10) : random.nextInt(), below(1000), below(16));
            case "beats": return row(below(3) == 0 ? 1 + below(200) : 1 + below(6));
            case "loose": return row(1 + below(below(4) == 0 ? 40 : 5));
            case "wear": return row(below(places));
            case "then": return row(below(3) == 0 ? below(201) : below(20), crosser, below(2));
            case "over", "begin": return row(crosser);
            case "rhymes": return row(below(61), set, below(1 << crossers) & ~set, below(2));
            case "most": return row(below(61));
            case "parts": return row(below(2) == 0 ? below(20) : below(1000));
            case "who": return row(below(4), below(30));
            case "odds": return row(crosser, below(40), below(2));
            case "voice": return row(crosser, below(4), below(2) == 0 ? below(20) : random.nextInt());
            case "trace": return row(below(10));
            case "sheet": return row(below(4), new int[] {0, 8, 16, 32}[below(4)], below(2) == 0 ? places : below(41));
            case "put": return row(below(4), below(10), below(2) == 0 ? below(4) : below(300));
            case "move": return row(below(4), below(5), below(4), below(5), below(5));
            case "loads", "judge": return row(below(4));
            case "tell": return row(below(crossers + 1));
            case "seed": return row(random.nextInt());
            case "count": return row(below(14));
            case "told": return row(1 + below(5));
            default: return row();
        }
    }

    private static long[] row(int... numbers) {
        long[] row = new long[numbers.length];
        for (int i = 0; i < row.length; i++) {
            row[i] = numbers[i];
        }
        return row;
    }

    /** A text by the grammar, then, at times, one byte of it made wrong. */
    String someText(int use) {
        StringBuilder text = new StringBuilder(part(use, 0, 0));
        while (text.length() > 50) {
            text = new StringBuilder(part(use, 0, 0));
        }
        if (below(3) == 0) {
            String signs = "klpwb0123456789|&<=>+-*/%!()x ";
            char sign = signs.charAt(below(signs.length()));
            int at = below(text.length() + 1);
            if (below(2) == 0 && at < text.length()) {
                text.setCharAt(at, sign);
            } else if (text.length() < 50) {
                text.insert(at, sign);
            }
        }
        return text.toString();
    }

    private String part(int use, int level, int open) {
        String[] signs = {"|", "&", "<=>", "+-", "*/%"};
        if (level < 5) {
            StringBuilder text = new StringBuilder(part(use, level + 1, open));
            int more = level == 2 ? below(5) / 4 : below(7) / 5;
            for (int i = 0; i < more; i++) {
                text.append(signs[level].charAt(below(signs[level].length()))).append(part(use, level + 1, open));
            }
            return text.toString();
        }
        int which = below(6);
        if (which == 0 && open < 6) {
            return "!" + part(use, 5, open + 1);
        }
        if (which == 1 && open < 6) {
            return "(" + part(use, 0, open + 1) + ")";
        }
        if (which < 4) {
            return String.valueOf(below(below(2) == 0 ? 10 : 10000));
        }
        return String.valueOf((use == 0 ? "klp" : "kwb").charAt(below(3)));
    }

    private void makeText() {
        int use = below(2);
        String text = below(3) > 0 ? someText(use)
            : use == 0 ? "1+l%5" : new String[] {"1", "b>0", "w<k*9+5", "b%2=0|k>3"}[below(4)];
        ready.add(named("text", use));
        ready.addAll(0, fed(text));
    }

    private List<Call> fed(String text) {
        List<Call> calls = new ArrayList<>();
        for (int at = 0; at < text.length();) {
            int n = Math.min(1 + below(8), text.length() - at);
            long word = random.nextLong();
            for (int i = 0; i < n; i++) {
                word = word & ~(255L << (8 * i)) | (long) text.charAt(at + i) << (8 * i);
            }
            calls.add(named("feed", word, n));
            at += n;
        }
        return calls;
    }

    /** A sheet with the wear that one of the crossers would leave, so that who() finds him. */
    private void makeWear(SlowBorder like) {
        int crossers = like.count(6);
        if (crossers == 0) {
            return;
        }
        int n = below(40);
        int[] wear = like.wearIfJust(below(crossers), n);
        int sheet = below(4);
        ready.add(named("sheet", sheet, 8 << below(3), wear.length));
        for (int i = 0; i < wear.length; i++) {
            ready.add(named("put", sheet, i, wear[i]));
        }
        ready.add(named("who", sheet, n));
    }
}
