import java.io.IOException;
import java.lang.reflect.InvocationTargetException;
import java.lang.reflect.Method;
import java.nio.file.Files;
import java.nio.file.Path;
import java.util.regex.Matcher;
import java.util.regex.Pattern;

/** Makes the calls of README.md's example, so that what it tells its readers stays true. */
public final class ReadmeTest {
    private static final Pattern MAKING = Pattern.compile("LoanArrows x = new LoanArrows\\((\\d+), (\\d+)\\);.*");
    private static final Pattern CALL = Pattern.compile("x\\.(\\w+)\\(([\\d, ]*)\\); +// (?:(-?\\d+|true|false): )?.*");

    private static LoanArrows x;
    private static int answersSeen;

    public static void main(String[] args) throws IOException, ReflectiveOperationException {
        boolean inExample = false;
        for (String line : Files.readAllLines(Path.of("README.md"))) {
            if (line.startsWith("```")) {
                inExample = line.equals("```java");
            } else if (inExample) {
                follow(line);
            }
        }
        // Without this an example that nothing here can read would pass.
        Check.due("the example has answers", answersSeen > 0, true);
        Check.end();
    }

    private static void follow(String line) throws ReflectiveOperationException {
        Matcher making = MAKING.matcher(line);
        Matcher call = CALL.matcher(line);
        if (making.matches()) {
            x = new LoanArrows(Integer.parseInt(making.group(1)), Integer.parseInt(making.group(2)));
        } else if (call.matches()) {
            compare(line, callByName(call.group(1), call.group(2)), call.group(3));
        } else {
            Check.report("a line of the example can't be read: " + line);
        }
    }

    private static void compare(String line, Object got, String due) {
        if (due != null) {
            Check.due(line, String.valueOf(got), due);
            answersSeen++;
        } else if (got != null) {
            Check.report("the example does not tell the answer " + got + ": " + line);
        }
    }

    private static Object callByName(String name, String list) throws ReflectiveOperationException {
        String[] texts = list.isEmpty() ? new String[0] : list.split(", ");
        Class<?>[] types = new Class<?>[texts.length];
        Object[] values = new Object[texts.length];
        for (int i = 0; i < texts.length; i++) {
            types[i] = int.class;
            values[i] = Integer.valueOf(texts[i]);
        }
        Method method = LoanArrows.class.getMethod(name, types);
        try {
            return method.invoke(x, values);
        } catch (InvocationTargetException e) {
            return e.getCause();
        }
    }
}
