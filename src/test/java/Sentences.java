import java.io.IOException;
import java.nio.charset.StandardCharsets;
import java.nio.file.Files;
import java.nio.file.Path;
import java.util.LinkedHashMap;
import java.util.List;
import java.util.Map;

/**
 * The document's sentences, each with how many answers were asked for it. A test first says of which
 * sentence it is, by the words with which that begins; at the end none may have been left out.
 */
final class Sentences {
    private static final Path DOCUMENT = Path.of("../shared/DOC.md");
    private static final String TERMS = "Terms";

    private final Due due;
    private final Map<String, Map<String, Integer>> sections = new LinkedHashMap<>();
    private Map<String, Integer> section;
    private String sentence;
    private String name;

    Sentences(Due due) throws IOException {
        this.due = due;
        for (String text : Files.readString(DOCUMENT, StandardCharsets.UTF_8).split("(?m)^## ")) {
            String head = text.lines().findFirst().orElse("");
            if (head.equals(TERMS)) {
                sections.put(TERMS, split(text.substring(head.length())));
            } else if (head.startsWith("Promise ")) {
                sections.put(head.replaceAll("Promise (\\d+):.*", "$1"), split(text.substring(head.length())));
            }
        }
        due.is("sections of the document: 43 promises and the terms", sections.size(), 44);
    }

    /** Sentences end with a dot that stands behind a word and ahead of a gap; what is no promise is left out. */
    private static Map<String, Integer> split(String text) {
        String line = text.replaceAll("```(text)?", " ").replaceAll("\\s+", " ");
        Map<String, Integer> sentences = new LinkedHashMap<>();
        for (String part : line.split("(?<=[^ .(])\\.(?= |$|\\) )")) {
            String words = part.strip().replaceAll("^\\) ", "").replaceAll("^`[^`]*`: ", "");
            boolean isHead = words.isEmpty() || words.matches("\\d") || words.startsWith("Ahead of the calls");
            if (!isHead) {
                sentences.put(words, 0);
            }
        }
        return sentences;
    }

    void term(String beginning) {
        begin(TERMS, beginning);
    }

    void of(int promise, String beginning) {
        begin(String.valueOf(promise), beginning);
    }

    private void begin(String where, String beginning) {
        section = sections.get(where);
        List<String> found = section.keySet().stream().filter(s -> s.startsWith(beginning)).toList();
        if (found.size() != 1) {
            throw new IllegalArgumentException(where + " has " + found.size() + " sentences: " + beginning);
        }
        sentence = found.get(0);
        name = where + ", \"" + (sentence.length() > 40 ? sentence.substring(0, 40) + ".." : sentence) + "\"";
    }

    void is(String call, long got, long want) {
        section.merge(sentence, 1, Integer::sum);
        due.is(name + ": " + call, got, want);
    }

    /** Makes the calls of a new object; one that answers an ERROR must change nothing, too. */
    void run(String script) {
        List<Script.Step> steps = Script.read(script);
        Script.Player player = new Script.Player();
        for (int i = 0; i < steps.size(); i++) {
            Script.Step step = steps.get(i);
            int got = player.make(step);
            if (step.want() != null) {
                is(step.told() + " as call " + i, got, step.want());
            }
            if (step.isError()) {
                Untouched.check(due, steps.subList(0, i), step, name + ": " + step.told());
            }
        }
    }

    /** Each of the calls, behind the same calls of an object of its own, answers the ERROR. */
    void refuse(String ahead, String error, String... calls) {
        for (String call : calls) {
            run(ahead + "\n" + call + " = " + error);
        }
    }

    /** Each of the calls changes nothing, though it answers no ERROR. */
    void unchanged(String ahead, String... calls) {
        for (String call : calls) {
            section.merge(sentence, 1, Integer::sum);
            Untouched.check(due, Script.read(ahead), Script.read(call).get(0), name + ": " + call);
        }
    }

    /** Two new objects answer alike behind these calls, whatever is asked. */
    void alike(String calls, String others) {
        section.merge(sentence, 1, Integer::sum);
        Untouched.alike(due, Script.read(calls), Script.read(others), name + ": " + calls.strip());
    }

    void end() {
        sections.forEach((where, all) -> all.forEach((words, asked) ->
            due.holds(where + ": a sentence without a test: " + words, asked > 0)));
    }
}
