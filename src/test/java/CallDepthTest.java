import java.io.PrintWriter;
import java.io.StringWriter;
import java.lang.reflect.Modifier;
import java.nio.file.Path;
import java.util.ArrayList;
import java.util.LinkedHashMap;
import java.util.LinkedHashSet;
import java.util.List;
import java.util.Map;
import java.util.Set;
import java.util.TreeSet;
import java.util.regex.Matcher;
import java.util.regex.Pattern;
import java.util.spi.ToolProvider;

/**
 * LANGUAGE.md's rules 8 and 11: which methods call which, as the compiled class has it. Calls that
 * are no recursion go at most eight deep, and only those that carry their depth call themselves.
 */
public final class CallDepthTest {
    private static final int DEEPEST = 8;
    private static final Pattern CLASS = Pattern.compile(".*\\bclass (RopeBorder[$\\w]*).*\\{");
    private static final Pattern HEAD = Pattern.compile("  (?! )(?:[^(]* )?([\\w$]+)\\(.*\\);|  static \\{\\};");
    private static final Pattern DESCRIPTOR = Pattern.compile("    descriptor: (\\(.*)");
    private static final Pattern CALL = Pattern.compile(".*: invoke\\w+ .*// (?:Interface)?Method (?:([\\w/$]+)\\.)?\"?([\\w<>$]+)\"?:(\\S+)");
    private static final Map<String, Set<String>> calls = new LinkedHashMap<>();
    private static final Due due = new Due("CallDepthTest");

    public static void main(String[] args) throws Exception {
        readCalls();
        checkAllFound();
        for (var method : RopeBorder.class.getDeclaredMethods()) {
            if (Modifier.isPublic(method.getModifiers())) {
                checkDepth("RopeBorder." + method.getName() + ":");
            }
        }
        checkDepth("RopeBorder.<init>:");
        Set<String> again = new TreeSet<>();
        for (String method : calls.keySet()) {
            if (reached(method).contains(method)) {
                again.add(method.replaceAll(":.*", ""));
            }
        }
        due.holds("only these call themselves again: " + again, again.equals(Set.of("RopeBorder$Reader.readLevel",
            "RopeBorder$Reader.readUnit", "RopeBorder$Reader.readOpened", "RopeBorder$Voices.say", "RopeBorder$Voices.work")));
        due.end();
    }

    /** A class of the program calls no method that wasn't found: else ways down would end too early. */
    private static void checkAllFound() {
        calls.forEach((method, next) -> next.stream().filter(name -> name.startsWith("RopeBorder"))
            .forEach(name -> due.holds(name + " is found", calls.containsKey(name))));
    }

    private static void checkDepth(String beginning) {
        List<String> found = calls.keySet().stream().filter(name -> name.startsWith(beginning)).toList();
        due.is(beginning + " is found", found.size(), 1);
        List<String> deepest = deepest(found.get(0), new LinkedHashSet<>());
        due.holds("at most eight deep: " + deepest, deepest.size() <= DEEPEST);
    }

    /** The longest way down that goes through no method twice. */
    private static List<String> deepest(String method, Set<String> way) {
        way.add(method);
        List<String> longest = List.of();
        for (String next : calls.getOrDefault(method, Set.of())) {
            if (!way.contains(next)) {
                List<String> below = deepest(next, way);
                longest = below.size() > longest.size() ? below : longest;
            }
        }
        way.remove(method);
        List<String> all = new ArrayList<>(List.of(method));
        all.addAll(longest);
        return all;
    }

    private static Set<String> reached(String method) {
        Set<String> all = new LinkedHashSet<>();
        List<String> ahead = new ArrayList<>(calls.get(method));
        for (int i = 0; i < ahead.size(); i++) {
            if (all.add(ahead.get(i))) {
                ahead.addAll(calls.getOrDefault(ahead.get(i), Set.of()));
            }
        }
        return all;
    }

    private static void readCalls() throws Exception {
        String owner = "";
        String head = "";
        String method = "";
        for (String line : disassembled()) {
            Matcher type = CLASS.matcher(line);
            Matcher name = HEAD.matcher(line);
            Matcher descriptor = DESCRIPTOR.matcher(line);
            Matcher call = CALL.matcher(line);
            if (type.matches()) {
                owner = type.group(1);
            } else if (name.matches()) {
                head = name.group(1) == null ? "<clinit>" : name.group(1).equals(owner) ? "<init>" : name.group(1);
            } else if (descriptor.matches()) {
                method = owner + "." + head + ":" + descriptor.group(1);
                due.holds(method + " is found once", calls.put(method, new LinkedHashSet<>()) == null);
            } else if (call.matches()) {
                String of = call.group(1) == null ? owner : call.group(1);
                calls.get(method).add(of + "." + call.group(2) + ":" + call.group(3));
            }
        }
    }

    private static List<String> disassembled() throws Exception {
        ToolProvider javap = ToolProvider.findFirst("javap").orElseThrow();
        Path classes = Path.of(RopeBorder.class.getProtectionDomain().getCodeSource().getLocation().toURI());
        List<String> command = new ArrayList<>(List.of("-p", "-c", "-s", classes.resolve("RopeBorder.class").toString()));
        for (Class<?> inside : RopeBorder.class.getDeclaredClasses()) {
            command.add(classes.resolve(inside.getName() + ".class").toString());
        }
        StringWriter text = new StringWriter();
        javap.run(new PrintWriter(text), new PrintWriter(System.out, true), command.toArray(new String[0]));
        return text.toString().lines().toList();
    }
}
