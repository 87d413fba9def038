import java.lang.reflect.Method;
import java.util.ArrayList;
import java.util.HashMap;
import java.util.List;
import java.util.Map;
import java.util.regex.Matcher;
import java.util.regex.Pattern;

/**
 * Calls as they are written down, one in each line or with "; " between them, with the answer that
 * is due, or without: "turner(50); 3 * beats(200); law(0, MIN, MAX, 0) = 1; wear(9) = BEYOND".
 * write(b=2, 1) feeds b=2 to the tape and makes it the text of use 1.
 */
final class Script {
    /** An object's answers are free behind so many calls. */
    static final int MOST_CALLS = 512;

    private static final Pattern FORM = Pattern.compile("(?:(\\d+) \\* )?(\\w+)\\((.*)\\)(?: = (-?\\d+|[A-Z]+))?");
    private static final Map<String, Integer> ERRORS = Map.of("BEYOND", Due.BEYOND, "NONE", Due.NONE,
        "STATE", Due.STATE, "FULL", Due.FULL, "KIND", Due.KIND);
    private static final Map<String, Method> FACE = new HashMap<>();

    static {
        for (Method method : RopeBorder.class.getMethods()) {
            if (method.getDeclaringClass() == RopeBorder.class) {
                FACE.put(method.getName(), method);
            }
        }
    }

    /** The answer that is due is null where none is told; an ERROR is one that was told by its name. */
    record Step(String told, int times, Method method, Object[] numbers, String text, Integer want, boolean isError) {
    }

    /** An object, and how often it was called. */
    static final class Player {
        private final RopeBorder x = new RopeBorder();
        private int calls;

        int make(Step step) {
            int answer = 0;
            for (int i = 0; i < step.times(); i++) {
                if (step.text() != null) {
                    feed(step.text());
                }
                answer = call(step.method(), step.numbers());
            }
            return answer;
        }

        void makeAll(List<Step> steps) {
            for (Step step : steps) {
                make(step);
            }
        }

        private void feed(String text) {
            for (int at = 0; at < text.length(); at += 8) {
                int n = Math.min(8, text.length() - at);
                long word = 0;
                for (int i = 0; i < n; i++) {
                    word |= (long) text.charAt(at + i) << (8 * i);
                }
                call(FACE.get("feed"), word, n);
            }
        }

        private int call(Method method, Object... numbers) {
            calls++;
            if (calls > MOST_CALLS) {
                throw new IllegalStateException("a run of more than " + MOST_CALLS + " calls");
            }
            try {
                return (Integer) method.invoke(x, numbers);
            } catch (ReflectiveOperationException e) {
                throw new IllegalStateException(method.getName() + " threw", e);
            }
        }
    }

    private Script() {
    }

    static List<Step> read(String script) {
        List<Step> steps = new ArrayList<>();
        for (String line : script.split("\n|; ")) {
            String told = line.strip();
            if (!told.isEmpty() && !told.startsWith("//")) {
                steps.add(step(told));
            }
        }
        return steps;
    }

    private static Step step(String told) {
        Matcher form = FORM.matcher(told);
        if (!form.matches()) {
            throw new IllegalArgumentException("no call: " + told);
        }
        int times = form.group(1) == null ? 1 : Integer.parseInt(form.group(1));
        String arguments = form.group(3);
        String text = null;
        String name = form.group(2);
        if (name.equals("write")) {
            int comma = arguments.lastIndexOf(", ");
            text = arguments.substring(0, comma);
            arguments = arguments.substring(comma + 2);
            name = "text";
        }
        Method method = FACE.get(name);
        if (method == null) {
            throw new IllegalArgumentException("not of the face: " + told);
        }
        String due = form.group(4);
        boolean isError = ERRORS.containsKey(due == null ? "" : due);
        return new Step(told, times, method, numbers(method, arguments), text,
            due == null ? null : isError ? ERRORS.get(due) : (Integer) (int) number(due), isError);
    }

    private static Object[] numbers(Method method, String arguments) {
        String[] parts = arguments.isEmpty() ? new String[0] : arguments.split(", ");
        Class<?>[] types = method.getParameterTypes();
        if (parts.length != types.length) {
            throw new IllegalArgumentException(method.getName() + " has other arguments than " + arguments);
        }
        Object[] numbers = new Object[parts.length];
        for (int i = 0; i < parts.length; i++) {
            long v = number(parts[i]);
            numbers[i] = types[i] == long.class ? v : (Object) Math.toIntExact(v);
        }
        return numbers;
    }

    private static long number(String part) {
        switch (part) {
            case "MIN": return Integer.MIN_VALUE;
            case "MAX": return Integer.MAX_VALUE;
            default: return part.startsWith("0x") ? Long.parseUnsignedLong(part.substring(2), 16) : Long.parseLong(part);
        }
    }
}
