import java.io.IOException;
import java.lang.reflect.Method;
import java.nio.file.Files;
import java.nio.file.Path;
import java.util.regex.Matcher;
import java.util.regex.Pattern;

/** The game that README.md plays: each call there answers what stands behind it. Run from the project's root. */
public final class ReadmeTest {
    private static final Pattern TELL = Pattern.compile("tell\\(x, \"([^\"]*)\"\\);");
    private static final Pattern CALL = Pattern.compile("x\\.(\\w+)\\(([-\\d, ]*)\\); +// (-?\\d+)(:.*)?");
    private static final Check check = new Check();

    public static void main(String[] args) throws IOException, ReflectiveOperationException {
        PaidMistakes x = new PaidMistakes();
        boolean inside = false;
        for (String line : Files.readAllLines(Path.of("README.md"))) {
            if (line.startsWith("```")) {
                inside = line.equals("```java");
            } else if (inside) {
                play(x, line);
            }
        }
        check.close("ReadmeTest");
    }

    private static void play(PaidMistakes x, String line) throws ReflectiveOperationException {
        Matcher tell = TELL.matcher(line);
        Matcher call = CALL.matcher(line);
        if (tell.matches()) {
            Check.tell(x, tell.group(1));
        } else if (call.matches()) {
            check.due(line, answer(x, call.group(1), call.group(2)), Long.parseLong(call.group(3)));
        } else {
            check.holds("can be played: " + line, line.isEmpty() || line.equals("PaidMistakes x = new PaidMistakes();"));
        }
    }

    private static long answer(PaidMistakes x, String name, String told) throws ReflectiveOperationException {
        String[] numbers = told.isEmpty() ? new String[0] : told.split(", ");
        Object[] given = new Object[numbers.length];
        for (int i = 0; i < numbers.length; i++) {
            given[i] = Integer.valueOf(numbers[i]);
        }
        for (Method method : PaidMistakes.class.getMethods()) {
            if (method.getName().equals(name) && method.getParameterCount() == given.length) {
                return ((Number) method.invoke(x, given)).longValue();
            }
        }
        throw new NoSuchMethodException(name + "(" + told + ")");
    }
}
