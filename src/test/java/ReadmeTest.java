import java.io.IOException;
import java.lang.reflect.InvocationTargetException;
import java.lang.reflect.Method;
import java.nio.file.Files;
import java.nio.file.Path;
import java.util.regex.Matcher;
import java.util.regex.Pattern;

/** The example in README.md, call by call: what it says of an answer or an exception must be so. */
public final class ReadmeTest {
    private static final Pattern LINE = Pattern.compile("code\\.(\\w+)\\(([-0-9, ]*)\\); +// (.*)");
    private static final Pattern ANSWER = Pattern.compile("answers (-?\\d+).*");
    private static final Pattern REFUSAL = Pattern.compile("throws (\\w+).*");

    public static void main(String[] args) throws IOException {
        Check check = new Check();
        check.part("README.md");
        TypeStack code = new TypeStack();
        int calls = 0;
        for (String line : Files.readAllLines(Path.of("README.md"))) {
            Matcher call = LINE.matcher(line);
            if (call.matches()) {
                calls++;
                check.due(line, outcome(code, call.group(1), numbers(call.group(2))), told(call.group(3)));
            }
        }
        check.due("calls in the example", Boolean.toString(calls > 0), "true");
        check.finish();
    }

    private static Object[] numbers(String written) {
        if (written.isEmpty()) {
            return new Object[0];
        }
        return Pattern.compile(", *").splitAsStream(written).map(Integer::valueOf).toArray();
    }

    /** A line that tells neither an answer nor an exception is one of a call that answers nothing. */
    private static String told(String words) {
        Matcher answer = ANSWER.matcher(words);
        if (answer.matches()) {
            return answer.group(1);
        }
        Matcher refusal = REFUSAL.matcher(words);
        return refusal.matches() ? "throws." + refusal.group(1) : "nothing";
    }

    private static String outcome(TypeStack code, String name, Object[] numbers) {
        try {
            Object answer = methodOf(name).invoke(code, numbers);
            return answer == null ? "nothing" : answer.toString();
        } catch (InvocationTargetException e) {
            return "throws." + e.getCause().getClass().getSimpleName();
        } catch (IllegalAccessException | IllegalArgumentException e) {
            return "no such call";
        }
    }

    private static Method methodOf(String name) {
        for (Method method : TypeStack.class.getMethods()) {
            if (method.getName().equals(name)) {
                return method;
            }
        }
        throw new IllegalArgumentException(name);
    }
}
