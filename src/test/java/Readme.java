import java.util.ArrayList;
import java.util.List;
import java.util.Map;
import java.util.TreeMap;
import java.util.regex.Matcher;
import java.util.regex.Pattern;

/** A page such as README.md: its blocks of code, and the calls in them with the answers it tells. */
final class Readme {
    private static final Pattern ERROR_ROW = Pattern.compile("\\| ([A-Z]+) +\\| +(-\\d+) +\\| +(\\d) .*");
    private static final Pattern CALL = Pattern.compile("(?:int (\\w+) = )?(border\\.(\\w+)\\(.*?\\)); +// (-?\\d+|[A-Z]+)(?:: .*)?");
    private static final Pattern CLASS = Pattern.compile("public class (\\w+) .*");
    private static final String NEW = "RopeBorder border = new RopeBorder();";

    /** Code of a language; the number is that of its first line in the page. */
    record Block(String language, int line, List<String> code) {
        boolean isProgram() {
            return language.equals("java") && !className().isEmpty();
        }

        boolean isCalls() {
            return language.equals("java") && !isProgram();
        }

        String className() {
            return code.stream().map(CLASS::matcher).filter(Matcher::matches).map(m -> m.group(1)).findFirst().orElse("");
        }

        String text() {
            return String.join("\n", code) + "\n";
        }
    }

    /** A call; name is that of the int it becomes, or null. */
    record Shown(int line, String name, String call, String method, String answer) {
    }

    record ErrorRow(int answer, int toldAs) {
    }

    final List<Block> blocks = new ArrayList<>();
    final Map<String, ErrorRow> errors = new TreeMap<>();

    Readme(List<String> lines) {
        Block open = null;
        for (int i = 0; i < lines.size(); i++) {
            String line = lines.get(i);
            if (open == null && line.startsWith("```")) {
                open = new Block(line.substring(3), i + 2, new ArrayList<>());
                blocks.add(open);
            } else if (open != null && line.equals("```")) {
                open = null;
            } else if (open != null) {
                open.code().add(line);
            } else {
                readErrorRow(line);
            }
        }
    }

    private void readErrorRow(String line) {
        Matcher row = ERROR_ROW.matcher(line);
        if (row.matches()) {
            errors.put(row.group(1), new ErrorRow(Integer.parseInt(row.group(2)), Integer.parseInt(row.group(3))));
        }
    }

    /** Each line of calls is a call with its answer; only the first one makes the object. */
    static List<Shown> calls(Block block) {
        List<Shown> calls = new ArrayList<>();
        for (int i = 0; i < block.code().size(); i++) {
            String line = block.code().get(i);
            Matcher call = CALL.matcher(line);
            if (call.matches()) {
                calls.add(new Shown(block.line() + i, call.group(1), call.group(2), call.group(3), call.group(4)));
            } else if (i != 0 || !line.equals(NEW)) {
                throw new IllegalArgumentException("line " + (block.line() + i) + ": no call with its answer: " + line);
            }
        }
        return calls;
    }

    /** The block as it is shown, and once more so that it hands out what its calls answer. */
    static String program(String name, Block block) {
        StringBuilder answers = new StringBuilder();
        for (Shown shown : calls(block)) {
            boolean isNamed = shown.name() != null;
            answers.append(isNamed ? "int " + shown.name() + " = " + shown.call() + ";\n" : "");
            answers.append("answers.add(").append(isNamed ? shown.name() : shown.call()).append(");\n");
        }
        return "public final class " + name + " {\n"
            + "public static void asShown() {\n" + block.text() + "}\n"
            + "public static java.util.List<Integer> answers() {\n"
            + "java.util.List<Integer> answers = new java.util.ArrayList<>();\n" + NEW + "\n" + answers
            + "return answers;\n}\n}\n";
    }

    int due(Shown shown) {
        ErrorRow error = errors.get(shown.answer());
        return error == null ? Integer.parseInt(shown.answer()) : error.answer();
    }
}
