import java.io.File;
import java.io.IOException;
import java.net.URL;
import java.net.URLClassLoader;
import java.nio.charset.StandardCharsets;
import java.nio.file.Files;
import java.nio.file.Path;
import java.util.ArrayList;
import java.util.Comparator;
import java.util.List;
import java.util.Set;
import java.util.TreeSet;
import java.util.concurrent.TimeUnit;
import java.util.regex.Matcher;
import java.util.regex.Pattern;
import java.util.stream.Stream;

/** What README.md shows compiles against the class, and answers and prints as README.md says. */
public final class ReadmeTest {
    private static final Due due = new Due("ReadmeTest");

    public static void main(String[] args) throws Exception {
        List<String> lines = Files.readAllLines(Path.of("README.md"), StandardCharsets.UTF_8);
        Readme readme = new Readme(lines);
        Path room = Files.createTempDirectory("readme");
        try {
            errors(readme);
            calls(readme, room);
            programs(readme, room);
            wholeFaceIsShown(readme);
            scripts(String.join("\n", lines));
        } finally {
            remove(room);
        }
        due.end();
    }

    private static void errors(Readme readme) {
        due.is("ERRORS in the table", readme.errors.size(), 5);
        readme.errors.forEach((name, row) -> due.is(name + " as it is told", row.answer(), Due.LOW - row.toldAs()));
    }

    private static void calls(Readme readme, Path room) throws Exception {
        List<Readme.Block> blocks = readme.blocks.stream().filter(Readme.Block::isCalls).toList();
        compile(blocks, room);
        Set<String> answered = new TreeSet<>();
        try (URLClassLoader loader = new URLClassLoader(new URL[] {room.toUri().toURL()})) {
            for (Readme.Block block : blocks) {
                List<Readme.Shown> shown = Readme.calls(block);
                List<?> answers = answers(loader.loadClass(nameOf(block)));
                due.is("answers from line " + block.line() + " on", answers.size(), shown.size());
                for (int i = 0; i < shown.size(); i++) {
                    Readme.Shown one = shown.get(i);
                    due.is("line " + one.line() + ", " + one.call(), (Integer) answers.get(i), readme.due(one));
                    answered.add(one.answer());
                }
            }
        }
        due.holds("each ERROR of the table is shown", answered.containsAll(readme.errors.keySet()));
    }

    private static String nameOf(Readme.Block block) {
        return "ReadmeLine" + block.line();
    }

    private static void compile(List<Readme.Block> blocks, Path room) throws Exception {
        List<String> command = new ArrayList<>(List.of("javac", "-cp", System.getProperty("java.class.path"), "-d", room.toString()));
        for (Readme.Block block : blocks) {
            Path file = room.resolve(nameOf(block) + ".java");
            Files.writeString(file, Readme.program(nameOf(block), block));
            command.add(file.toString());
        }
        printed(Path.of("."), room, command);
    }

    private static List<?> answers(Class<?> program) throws ReflectiveOperationException {
        program.getMethod("asShown").invoke(null);
        return (List<?>) program.getMethod("answers").invoke(null);
    }

    /** A program, the commands that follow it, and what they print. */
    private static void programs(Readme readme, Path room) throws Exception {
        int found = 0;
        for (int i = 0; i + 2 < readme.blocks.size(); i++) {
            Readme.Block program = readme.blocks.get(i);
            if (program.isProgram()) {
                found++;
                Readme.Block commands = readme.blocks.get(i + 1);
                Readme.Block prints = readme.blocks.get(i + 2);
                due.holds("line " + program.line() + ": commands follow", commands.language().equals("sh"));
                due.holds("line " + program.line() + ": what it prints follows", prints.language().equals("text"));
                String printed = printedAsShown(program, commands, room);
                due.holds("line " + program.line() + " printed\n" + printed, printed.equals(prints.text()));
            }
        }
        due.is("programs with their commands", found, 1);
    }

    /** As the reader does it, but in a room of its own, in which src stands beside the program. */
    private static String printedAsShown(Readme.Block program, Readme.Block commands, Path room) throws Exception {
        Path own = Files.createDirectory(room.resolve("line" + program.line()));
        Files.createSymbolicLink(own.resolve("src"), Path.of("src").toAbsolutePath());
        Files.writeString(own.resolve(program.className() + ".java"), program.text());
        return printed(own, room, List.of("sh", "-e", "-c", commands.text()));
    }

    /** Complaints go to the test's own output: a Java machine may tell its settings among them. */
    private static String printed(Path where, Path room, List<String> command) throws Exception {
        File output = room.resolve("printed").toFile();
        Process process = new ProcessBuilder(command).directory(where.toFile())
            .redirectError(ProcessBuilder.Redirect.INHERIT).redirectOutput(output).start();
        if (!process.waitFor(2, TimeUnit.MINUTES)) {
            process.destroyForcibly().waitFor();
        }
        due.is("the end of " + command.get(0), process.exitValue(), 0);
        return Files.readString(output.toPath());
    }

    private static void wholeFaceIsShown(Readme readme) {
        Set<String> shown = new TreeSet<>();
        for (Readme.Block block : readme.blocks) {
            if (block.isCalls()) {
                Readme.calls(block).forEach(call -> shown.add(call.method()));
            }
        }
        Stream.of(RopeBorder.class.getMethods()).filter(method -> method.getDeclaringClass() == RopeBorder.class)
            .forEach(method -> due.holds(method.getName() + " is shown", shown.contains(method.getName())));
    }

    /** Calls as the tests write them: s.run("rope(9) = BEYOND"). */
    private static void scripts(String text) {
        Matcher script = Pattern.compile("s\\.run\\(\"([^\"]*)\"\\)").matcher(text);
        while (script.find()) {
            Script.Player player = new Script.Player();
            for (Script.Step step : Script.read(script.group(1))) {
                due.is(step.told(), player.make(step), step.want());
            }
        }
    }

    private static void remove(Path room) throws IOException {
        try (Stream<Path> all = Files.walk(room)) {
            for (Path path : all.sorted(Comparator.reverseOrder()).toList()) {
                Files.delete(path);
            }
        }
    }
}
