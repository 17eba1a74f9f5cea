import java.io.IOException;
import java.nio.file.Files;
import java.nio.file.Path;
import java.util.ArrayList;
import java.util.Arrays;
import java.util.List;
import java.util.regex.Matcher;
import java.util.regex.Pattern;

/** The example in README.md: each call answers the number that its comment begins with. */
final class ReadmeTest {
    private static final String FIRST_LINE = "SailLog log = new SailLog();";
    private static final Pattern CALL =
            Pattern.compile("log\\.(\\w+)\\(([-\\d, ]*)\\); +// (-?\\d+): .+");
    private static final List<String> EXAMPLE = new ArrayList<>();

    private ReadmeTest() {
    }

    static void read(Path path) throws IOException {
        boolean inExample = false;
        for (String line : Files.readAllLines(path)) {
            if (line.startsWith("```")) {
                inExample = line.equals("```java");
            } else if (inExample) {
                EXAMPLE.add(line);
            }
        }
    }

    static void run() {
        Checks.holds("the example begins with " + FIRST_LINE,
                EXAMPLE.size() > 1 && EXAMPLE.get(0).equals(FIRST_LINE));
        SailLog log = new SailLog();
        for (int i = 1; i < EXAMPLE.size(); i++) {
            String line = EXAMPLE.get(i);
            Matcher call = CALL.matcher(line);
            Checks.holds(line + " is a call with its answer", call.matches());
            if (call.matches()) {
                Checks.same(line, Integer.parseInt(call.group(3)),
                        answer(log, call.group(1), numbers(call.group(2))));
            }
        }
    }

    private static Object[] numbers(String text) {
        List<Object> numbers = new ArrayList<>();
        for (String number : text.isEmpty() ? new String[0] : text.split(", ")) {
            numbers.add(Integer.valueOf(number));
        }
        return numbers.toArray();
    }

    private static int answer(SailLog log, String name, Object[] numbers) {
        Class<?>[] types = new Class<?>[numbers.length];
        Arrays.fill(types, int.class);
        try {
            return (int) SailLog.class.getMethod(name, types).invoke(log, numbers);
        } catch (ReflectiveOperationException e) {
            throw new IllegalStateException(name + ": " + e, e);
        }
    }
}
