import java.io.IOException;
import java.lang.reflect.Method;
import java.lang.reflect.Modifier;
import java.nio.charset.StandardCharsets;
import java.nio.file.Files;
import java.nio.file.Path;
import java.util.List;
import java.util.regex.Matcher;
import java.util.regex.Pattern;

/** The calls of README.md answer what stands behind them, and the files that it names are there. */
public final class ReadmeTest {
    private static final Pattern NEW_OBJECT = Pattern.compile("Sidelessly house = new Sidelessly\\(\\);");
    private static final Pattern CALL = Pattern.compile(
            "(?:int (\\w+) = )?(house\\..*); *// (throws \\w+|[^,]+)(,.*)?");
    private static final Pattern INNER_CALL = Pattern.compile("house\\.(\\w+\\([^()]*\\))");

    private final Check check = new Check("ReadmeTest");

    public static void main(String[] args) throws IOException {
        ReadmeTest test = new ReadmeTest();
        List<String> lines = Files.readAllLines(Path.of("README.md"), StandardCharsets.UTF_8);
        test.examples(lines);
        test.files(lines);
        test.check.close();
    }

    private void examples(List<String> lines) {
        Calls calls = null;
        String fence = "";
        int examples = 0;
        for (String line : lines) {
            if (line.startsWith("```")) {
                fence = fence.isEmpty() ? line : "";
            } else if (fence.equals("```java")) {
                check.same("a line has 120 signs at most: " + line, true, line.length() <= 120);
                boolean isNew = NEW_OBJECT.matcher(line).matches();
                calls = isNew ? new Calls() : calls;
                examples += isNew ? 1 : 0;
                if (!isNew) {
                    example(calls, line);
                }
            }
        }
        check.same("there are examples", true, examples >= 5);
        for (Method method : Sidelessly.class.getDeclaredMethods()) {
            boolean isShown = String.join(" ", lines).contains("house." + method.getName() + "(");
            check.same("shows " + method.getName(), Modifier.isPublic(method.getModifiers()), isShown);
        }
    }

    /** Calls within a call are made ahead of it, the first one first. */
    private void example(Calls calls, String line) {
        Matcher parts = CALL.matcher(line);
        if (calls == null || !parts.matches()) {
            check.same(line, "a call with its answer", "something else");
            return;
        }
        String call = parts.group(2);
        int inner = 0;
        Matcher next = INNER_CALL.matcher(call);
        while (next.find() && !next.group().equals(call)) {
            String name = "inner" + inner;
            calls.answerOf(next.group(1), name);
            call = call.substring(0, next.start()) + name + call.substring(next.end());
            inner++;
            next = INNER_CALL.matcher(call);
        }
        String made = call.substring("house.".length());
        String name = parts.group(1) == null ? "last" : parts.group(1);
        check.same(line, parts.group(3).trim(), calls.answerOf(made, name));
    }

    private void files(List<String> lines) {
        Pattern path = Pattern.compile("(?:\\.\\./|\\.ci/|src/)[\\w./]*\\w");
        for (String line : lines) {
            Matcher found = path.matcher(line);
            while (found.find()) {
                boolean isOutside = found.group().startsWith("../");
                check.same(found.group() + " is there", true, isOutside || Files.exists(Path.of(found.group())));
            }
        }
    }
}
