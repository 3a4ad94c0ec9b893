import java.io.IOException;
import java.lang.reflect.Method;
import java.nio.file.Files;
import java.nio.file.Path;
import java.util.ArrayList;
import java.util.List;
import java.util.regex.Matcher;
import java.util.regex.Pattern;

/** The lines of README.md that make calls: each answers what stands behind it. */
public final class ReadmeTest {
    private static final Pattern FED = Pattern.compile("feed\\(x, \"(.*)\"\\);");
    private static final Pattern ASKED = Pattern.compile("x\\.(\\w+)\\((.*)\\); +// (-?\\d+|true|false): .*");

    public static void main(String[] args) throws IOException, ReflectiveOperationException {
        Due due = new Due();
        OffTheLead x = new OffTheLead();
        int calls = 0;
        for (String line : Files.readAllLines(Path.of("README.md"))) {
            Matcher fed = FED.matcher(line);
            Matcher asked = ASKED.matcher(line);
            if (fed.matches()) {
                x.end(0);
                Due.feed(x, fed.group(1));
            } else if (asked.matches()) {
                calls++;
                due.is(line, answer(x, asked.group(1), asked.group(2)), number(asked.group(3)));
            } else {
                due.no("not read: " + line, line.startsWith("x."));
            }
        }
        due.yes("README.md has calls", calls > 20);
        due.finish("ReadmeTest");
    }

    private static long answer(OffTheLead x, String name, String written) throws ReflectiveOperationException {
        List<Object> numbers = new ArrayList<>();
        for (String one : written.split(",")) {
            if (!one.isBlank()) {
                numbers.add(Integer.valueOf(one.trim()));
            }
        }
        for (Method m : OffTheLead.class.getMethods()) {
            if (m.getName().equals(name) && m.getParameterCount() == numbers.size()) {
                return number(String.valueOf(m.invoke(x, numbers.toArray())));
            }
        }
        throw new IllegalArgumentException("no call " + name);
    }

    private static long number(String text) {
        return text.equals("true") ? 1 : text.equals("false") ? 0 : Long.parseLong(text);
    }
}
