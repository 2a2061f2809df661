import java.io.IOException;
import java.lang.reflect.Method;
import java.nio.file.Files;
import java.nio.file.Path;
import java.util.regex.Matcher;
import java.util.regex.Pattern;

/** Does the calls of README.md's examples, and compares their answers with those that it tells. */
public final class ReadmeTest {
    private static final Checks CHECKS = new Checks();
    private static final Pattern EXAMPLE = Pattern.compile("(?s)```java\n(.*?)```");
    private static final Pattern CALL = Pattern.compile("machine\\.(\\w+)\\(([^)]*)\\); *// (?:answers ([-\\w]+))?.*");
    private static final String NEW = "TapeMachine machine = new TapeMachine();";

    public static void main(String[] args) throws IOException, ReflectiveOperationException {
        Matcher example = EXAMPLE.matcher(Files.readString(Path.of("README.md")));
        int examples = 0;
        int answers = 0;
        while (example.find()) {
            examples++;
            answers += answersDue(example.group(1).split("\n"));
        }
        CHECKS.due("README.md has examples with answers", examples > 0 && answers > 0, true);
        CHECKS.end();
    }

    private static int answersDue(String[] rows) throws ReflectiveOperationException {
        CHECKS.due("an example begins with a new object", rows[0].equals(NEW), true);
        TapeMachine machine = new TapeMachine();
        int answers = 0;
        for (int i = 1; i < rows.length; i++) {
            Matcher call = CALL.matcher(rows[i]);
            boolean isCall = call.matches();
            CHECKS.due("a call stands in: " + rows[i], isCall, true);
            if (isCall) {
                Object got = answer(machine, call.group(1), call.group(2));
                if (call.group(3) != null) {
                    answers++;
                    answerDue(rows[i], got, call.group(3));
                }
            }
        }
        return answers;
    }

    private static Object answer(TapeMachine machine, String name, String list) throws ReflectiveOperationException {
        String[] texts = list.isEmpty() ? new String[0] : list.split(", ");
        Class<?>[] types = new Class<?>[texts.length];
        Object[] values = new Object[texts.length];
        for (int i = 0; i < texts.length; i++) {
            types[i] = int.class;
            values[i] = Integer.decode(texts[i]);
        }
        Method method = TapeMachine.class.getMethod(name, types);
        return method.invoke(machine, values);
    }

    private static void answerDue(String row, Object got, String want) {
        if (got instanceof Boolean) {
            CHECKS.due(row, (Boolean) got, Boolean.parseBoolean(want));
            CHECKS.due("true or false stands in: " + row, want.equals("true") || want.equals("false"), true);
        } else {
            CHECKS.due(row, (Integer) got, Integer.decode(want));
        }
    }
}
