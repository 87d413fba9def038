import java.io.IOException;
import java.lang.reflect.Field;
import java.lang.reflect.Method;
import java.lang.reflect.Modifier;
import java.nio.charset.StandardCharsets;
import java.nio.file.Files;
import java.nio.file.Path;
import java.util.List;
import java.util.Set;
import java.util.TreeSet;
import java.util.regex.Matcher;
import java.util.regex.Pattern;

/** What of ../shared/LANGUAGE.md a program can see: the face, the classes inside, words that are ruled out. */
public final class LanguageTest {
    private static final Due due = new Due("LanguageTest");
    private static final Path SOURCE = Path.of("src/main/java/RopeBorder.java");
    private static final Path DOCUMENT = Path.of("../shared/DOC.md");

    public static void main(String[] args) throws IOException {
        face();
        membersAreHidden();
        classesInside();
        words();
        sizes();
        headings();
        due.end();
    }

    private static Set<String> facePromised() throws IOException {
        String text = Files.readString(DOCUMENT, StandardCharsets.UTF_8);
        String block = text.substring(text.indexOf("```java") + 7);
        block = block.substring(0, block.indexOf("```"));
        Set<String> face = new TreeSet<>();
        Matcher line = Pattern.compile("public int (\\w+)\\(([^)]*)\\);").matcher(block);
        while (line.find()) {
            face.add(line.group(1) + "(" + line.group(2).replaceAll("(int|long) \\w+", "$1").replace(" ", "") + ")");
        }
        return face;
    }

    private static void face() throws IOException {
        Set<String> own = new TreeSet<>();
        for (Method method : RopeBorder.class.getDeclaredMethods()) {
            if (!Modifier.isPrivate(method.getModifiers())) {
                due.holds("1: public, not static: " + method, method.getModifiers() == Modifier.PUBLIC);
                due.holds("1: answers an int: " + method, method.getReturnType() == int.class);
                StringBuilder types = new StringBuilder();
                for (Class<?> type : method.getParameterTypes()) {
                    types.append(types.length() == 0 ? "" : ",").append(type.getName());
                }
                own.add(method.getName() + "(" + types + ")");
            }
        }
        due.is("1: methods of the face", own.size(), 42);
        due.holds("1: the face is the document's " + own, own.equals(facePromised()));
        due.is("1: constructors", RopeBorder.class.getDeclaredConstructors().length, 1);
        due.is("1: that of the face", RopeBorder.class.getConstructors()[0].getParameterCount(), 0);
        due.holds("1: final", Modifier.isFinal(RopeBorder.class.getModifiers()));
    }

    private static void membersAreHidden() {
        for (Field field : RopeBorder.class.getDeclaredFields()) {
            due.holds("1: private: " + field, Modifier.isPrivate(field.getModifiers()));
        }
        Set<String> publicNames = new TreeSet<>();
        for (Method method : RopeBorder.class.getMethods()) {
            publicNames.add(method.getName());
        }
        for (Method method : RopeBorder.class.getDeclaredMethods()) {
            due.holds("1: no public one's name: " + method,
                !Modifier.isPrivate(method.getModifiers()) || !publicNames.contains(method.getName()));
        }
        for (Class<?> inside : RopeBorder.class.getDeclaredClasses()) {
            for (Method method : inside.getDeclaredMethods()) {
                due.holds("1: no public one's name: " + method, !publicNames.contains(method.getName()));
            }
        }
    }

    private static void classesInside() {
        due.holds("11: some twelve classes", RopeBorder.class.getDeclaredClasses().length <= 11);
        checkFields(RopeBorder.class);
        for (Class<?> inside : RopeBorder.class.getDeclaredClasses()) {
            int modifiers = inside.getModifiers();
            due.holds("1: static: " + inside, Modifier.isStatic(modifiers));
            due.holds("1: not public: " + inside, !Modifier.isPublic(modifiers) && !Modifier.isProtected(modifiers));
            due.is("1: no class inside " + inside, inside.getDeclaredClasses().length, 0);
            checkFields(inside);
            for (Method method : inside.getDeclaredMethods()) {
                due.holds("11: seven parameters: " + method, method.getParameterCount() <= 7);
            }
        }
    }

    private static void checkFields(Class<?> of) {
        List<Class<?>> constants = List.of(int.class, long.class, boolean.class, char.class, String.class,
            int[].class, long[].class, char[].class, byte[].class);
        int own = 0;
        for (Field field : of.getDeclaredFields()) {
            if (Modifier.isStatic(field.getModifiers())) {
                due.holds("5: final: " + field, Modifier.isFinal(field.getModifiers()));
                due.holds("5: a constant: " + field, constants.contains(field.getType()));
            } else {
                own++;
            }
        }
        due.holds("11: some twenty fields: " + of, own <= 20);
    }

    /** The source without comments, texts and signs, whose words rule nothing out. */
    private static String code() throws IOException {
        String text = Files.readString(SOURCE, StandardCharsets.UTF_8);
        return text.replaceAll("(?s)/\\*.*?\\*/", " ").replaceAll("//[^\n]*", " ")
            .replaceAll("\"[^\"\n]*\"", "\"\"").replaceAll("'[^'\n]*'", "' '");
    }

    private static void words() throws IOException {
        String code = code();
        String[] ruledOut = {
            "\\bthrow", "\\btry\\b", "\\bcatch\\b", "\\bfinally\\b", "\\bsynchronized\\b", "\\bassert\\b", "->", "::",
            "\\bpackage\\b", "\\bimport\\b", "\\bvar\\b", "\\bstatic\\s*\\{", "\\bObject\\b", "@", "\\bequals\\b",
            "\\bhashCode\\b", "\\btoString\\b", "\\bclass\\b[^{]*\\bextends\\b", "\\bNaN\\b", "\\bvolatile\\b",
            "\\bnative\\b", "\\bThread\\b", "\\w+Exact\\b", "\\bprotected\\b", "\\[\\]\\s*\\[\\]\\s*\\[\\]",
            "System\\.(?!arraycopy\\b)", "Math\\.(?!(min|max)\\b)", "Integer\\.(?!bitCount\\b)"
        };
        for (String word : ruledOut) {
            due.holds("ruled out: " + word, !Pattern.compile(word).matcher(code).find());
        }
        for (char sign : Files.readString(SOURCE, StandardCharsets.UTF_8).toCharArray()) {
            if (sign > 126) {
                due.holds("4: a sign beyond 126: " + (int) sign, false);
            }
        }
        due.is("9: loops without a bound", count(code, "while \\(true\\)|for \\(;;\\)|for \\([^;]*;\\s*;"), 0);
    }

    private static int count(String code, String pattern) {
        int n = 0;
        Matcher matcher = Pattern.compile(pattern).matcher(code);
        while (matcher.find()) {
            n++;
        }
        return n;
    }

    /** A method's lines go from its head to the brace that stands as far in as the head does. */
    private static void sizes() throws IOException {
        List<String> lines = Files.readAllLines(SOURCE, StandardCharsets.UTF_8);
        Pattern head = Pattern.compile("^( {4}| {8})\\S.*\\) \\{$");
        for (int i = 0; i < lines.size(); i++) {
            Matcher matcher = head.matcher(lines.get(i));
            if (matcher.find()) {
                int end = i;
                while (end < lines.size() && !lines.get(end).equals(matcher.group(1) + "}")) {
                    end++;
                }
                due.holds("11: a short method at line " + (i + 1), end - i < 60);
            }
        }
    }

    /** "Ahead of the calls .. the interface says: ---- texts": the source says so, too, with the calls in order. */
    private static void headings() throws IOException {
        String source = Files.readString(SOURCE, StandardCharsets.UTF_8);
        Matcher said = Pattern.compile("Ahead of the calls (.*) the interface says: (---- .*)\\.")
            .matcher(Files.readString(DOCUMENT, StandardCharsets.UTF_8));
        int found = 0;
        while (said.find()) {
            found++;
            int at = source.indexOf("// " + said.group(2) + "\n");
            due.holds("the source says " + said.group(2), at >= 0);
            for (String call : said.group(1).replace("`", "").split(", ")) {
                int next = source.indexOf(" public int ", Math.max(at, 0));
                due.holds(call + " stands in its order", source.startsWith(" public int " + call + "(", next));
                at = next + 1;
            }
        }
        due.is("headings of the document", found, 5);
    }
}
