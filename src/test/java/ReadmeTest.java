import java.io.IOException;
import java.lang.reflect.InvocationTargetException;
import java.lang.reflect.Method;
import java.nio.file.Files;
import java.nio.file.Path;
import java.util.ArrayList;
import java.util.List;
import java.util.regex.Matcher;
import java.util.regex.Pattern;

/** README.md: its example answers what it says, and it tells of each call of the face. */
public final class ReadmeTest {
    private static final Pattern NEW_OBJECT =
            Pattern.compile("MarkRecovery x = new MarkRecovery\\((\\d+), (\\d+)\\);");
    private static final Pattern CALL =
            Pattern.compile("x\\.(\\w+)\\((.*)\\);(?: +// (throws \\w+|-?\\d+)(?:: .*)?)?");
    private static final Pattern SIGNATURE =
            Pattern.compile("(?m)^ +public ((?:\\w+ )?\\w+\\([^)]*\\))(?: throws ([^;]*))?;");
    private static final Pattern EXCEPTION = Pattern.compile("\\w+Exception");

    private final Check check = new Check();
    private final String readme;
    private MarkRecovery example;

    private ReadmeTest(String readme) {
        this.readme = readme;
    }

    public static void main(String[] args) throws IOException {
        ReadmeTest test = new ReadmeTest(Files.readString(Path.of("README.md")));
        test.dueExample();
        test.dueCalls(javaBlock(Files.readString(Path.of("../shared/DOC.md"))));
        test.check.end();
    }

    private static String javaBlock(String text) {
        Matcher block = Pattern.compile("(?s)```java\n(.*?)```").matcher(text);
        return block.find() ? block.group(1) : "";
    }

    private void dueExample() {
        String[] lines = javaBlock(readme).split("\n");
        check.due("lines of the example", 1, () -> lines.length > 1 ? 1 : 0);
        for (String line : lines) {
            Matcher made = NEW_OBJECT.matcher(line);
            Matcher call = CALL.matcher(line);
            if (made.matches()) {
                example = new MarkRecovery(Integer.parseInt(made.group(1)),
                        Integer.parseInt(made.group(2)));
            } else if (call.matches()) {
                dueLine(line, call.group(1), call.group(2), call.group(3));
            } else {
                check.due("a line that can be read: " + line, 1, () -> 0);
            }
        }
    }

    private void dueLine(String line, String name, String arguments, String said) {
        String answer = answer(name, arguments);
        String due = said == null ? "null" : said;
        check.due(line + " (answer: " + answer + ")", 1, () -> answer.equals(due) ? 1 : 0);
    }

    private String answer(String name, String arguments) {
        try {
            for (Method method : MarkRecovery.class.getMethods()) {
                if (method.getName().equals(name)) {
                    return String.valueOf(method.invoke(example, read(method, arguments)));
                }
            }
            return "no such call";
        } catch (InvocationTargetException thrown) {
            return "throws " + thrown.getCause().getClass().getSimpleName();
        } catch (IllegalAccessException notSeen) {
            return "not public";
        }
    }

    private static Object[] read(Method method, String arguments) {
        List<Object> values = new ArrayList<>();
        for (String argument : arguments.isEmpty() ? new String[0] : arguments.split(", ")) {
            boolean isInt = method.getParameterTypes()[values.size()] == int.class;
            long value = Long.decode(argument.replace("L", ""));
            values.add(isInt ? (Object) (int) value : (Object) value);
        }
        return values.toArray();
    }

    private void dueCalls(String face) {
        int calls = 0;
        for (Matcher call = SIGNATURE.matcher(face); call.find(); calls++) {
            List<String> due = exceptions(call.group(2) == null ? "" : call.group(2));
            String told = section(call.group(1));
            check.due("answers of " + call.group(1), 1,
                    () -> told.contains("\n- Answers: ") ? 1 : 0);
            check.due("throws of " + call.group(1) + ", due are " + due, 1,
                    () -> exceptions(throwsOf(told)).equals(due) ? 1 : 0);
        }
        // The constructor and eleven methods: else the face itself was not read.
        int read = calls;
        check.due("calls of the document's face", 12, () -> read);
    }

    private String section(String signature) {
        int from = readme.indexOf("\n### `" + signature + "`\n");
        if (from < 0) {
            return "";
        }
        int to = readme.indexOf("\n##", from + 1);
        return to < 0 ? readme.substring(from) : readme.substring(from, to);
    }

    private static String throwsOf(String section) {
        int from = section.indexOf("\n- Throws: ");
        return from < 0 ? "NoThrowsException" : section.substring(from);
    }

    private static List<String> exceptions(String text) {
        List<String> names = new ArrayList<>();
        for (Matcher name = EXCEPTION.matcher(text); name.find(); ) {
            names.add(name.group());
        }
        return names;
    }
}
