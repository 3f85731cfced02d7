import java.io.IOException;
import java.nio.charset.StandardCharsets;
import java.nio.file.Files;
import java.nio.file.Path;
import java.util.LinkedHashMap;
import java.util.Map;
import java.util.function.Predicate;

/**
 * Goes through the document by its sentences: a test names a section, says a sentence of it word by word, and looks
 * whether it holds. What is said but stands nowhere in the section, what stands there but is never said, and what is
 * said without a look behind it, is wrong.
 */
final class Sentences {
    static final String INDEX = "throws IndexOutOfBoundsException";
    static final String ARGUMENT = "throws IllegalArgumentException";
    static final String STATE = "throws IllegalStateException";
    static final String UNSUPPORTED = "throws UnsupportedOperationException";
    static final String NO_SUCH = "throws NoSuchElementException";
    static final String ARITHMETIC = "throws ArithmeticException";

    private static final Path DOCUMENT = Path.of("../shared/DOC.md");

    final Check check;
    private final Map<String, String> document = readDocument();
    private final Map<String, String> left = new LinkedHashMap<>();
    private String section = "";
    private String sentence = "";
    private int looksBefore;
    private int look;

    Sentences(String test) {
        check = new Check(test);
    }

    /** The sections by their names: 'Promise 7', or the first word of a paragraph of 'Terms'. */
    private static Map<String, String> readDocument() {
        Map<String, String> sections = new LinkedHashMap<>();
        if (!Files.isReadable(DOCUMENT)) {
            System.out.println(DOCUMENT + " is not here: whether a sentence of it was left out is not looked at");
            return sections;
        }
        String name = "";
        for (String line : linesOfDocument()) {
            if (line.startsWith("#")) {
                name = line.replaceFirst("^#+ ", "").replaceFirst(":.*", "");
                continue;
            }
            String words = plain(line);
            if (words.isEmpty()) {
                continue;
            }
            if (name.startsWith("Terms") && !line.startsWith("- ")) {
                String first = words.split("[.:]")[0];
                name = "Terms, " + first;
                words = words.substring(first.length() + 1);
            }
            sections.merge(name, words.trim(), (one, other) -> one + " " + other);
        }
        return sections;
    }

    private static Iterable<String> linesOfDocument() {
        try {
            return Files.readAllLines(DOCUMENT, StandardCharsets.UTF_8);
        } catch (IOException e) {
            throw new IllegalStateException("the document can't be read");
        }
    }

    /** Without the face of a method in front, which FaceTest looks at, and without marks. */
    private static String plain(String line) {
        return line.replaceFirst("^`\\w+( \\w+)?\\(.*?`: ", "").replaceFirst("^- ", "").replace("`", "").trim();
    }

    /** What the sections have by this name is to be said from now on. */
    void in(String name) {
        endSentence();
        section = name;
        sentence = "";
        if (!document.isEmpty()) {
            check.same("the document has " + name, true, document.containsKey(name));
        }
        left.putIfAbsent(name, document.getOrDefault(name, ""));
    }

    void says(String words) {
        endSentence();
        sentence = words;
        String text = left.getOrDefault(section, "");
        if (!document.isEmpty()) {
            check.same(section + " says <" + words + ">", true, document.get(section).contains(words));
        }
        left.put(section, text.replace(words, " "));
        check.sentence(section + ": " + words);
        looksBefore = check.looks();
        look = 0;
    }

    private void endSentence() {
        if (!sentence.isEmpty() && check.looks() == looksBefore) {
            check.same("looks at it", true, false);
        }
        check.sentence("");
    }

    /** The call answers this, or throws, by one of the texts above. */
    void is(Object due, Check.Call call) {
        look++;
        check.same("look " + look, due, Check.answerOf(call));
    }

    /** All sections with such a name are gone through by now. */
    void close(Predicate<String> isDue) {
        endSentence();
        for (String name : document.keySet()) {
            if (isDue.test(name)) {
                check.same("went through " + name, true, left.containsKey(name));
            }
        }
        for (Map.Entry<String, String> entry : left.entrySet()) {
            String unsaid = entry.getValue().replaceAll("\\s+", " ").trim();
            check.same("unsaid of " + entry.getKey() + ": " + unsaid, false, unsaid.matches(".*[A-Za-z0-9].*"));
        }
        check.close();
    }
}
